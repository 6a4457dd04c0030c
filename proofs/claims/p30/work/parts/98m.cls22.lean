/-! THE CLASS'S OWN METHODS (10): the log, a reading noted -/
section CLS22
variable {G : GP} {Q : Option Value → Sh → Dt → Prop} {d : Dt} {s : SS} {h : UInt32}
set_option maxHeartbeats 4000000 in
set_option maxRecDepth 100000 in
theorem c_logadd {nx c t : Nat} {v : Int32} (hnx : nx < 32) (hc : c ≤ 32) (h9 : d.1 9 1 = nI nx) (h92 : d.1 9 2 = nI c) (ht : d.1 189 1 = nI (t + 1)) (hQ : ∀ d', fr (lgE 1) nE d d' → (∀ j, ¬ (5 * nx ≤ j ∧ j < 5 * nx + 5) → d'.1 11 j = d.1 11 j) → d'.1 11 (5 * nx) = v → d'.1 11 (5 * nx + 1) = nI t → d'.1 11 (5 * nx + 2) = d.1 189 2 → d'.1 11 (5 * nx + 3) = d.1 189 3 → d'.1 11 (5 * nx + 4) = d.1 189 2 - d.1 189 4 → d'.1 9 1 = nI ((nx + 1) % 32) → d'.1 9 2 = nI (lgn c) → Q none S1 d') : mC G mX2_add [.ref 9, .int v, .ref 189] S1 d Q := by
  refine mC_of (by decide +kernel) ⟨_, rfl⟩ (Nat.le_of_ble_eq_true rfl) ?_
  show mM G mX2_add 0 [some (.ref 9), some (.int v), some (.ref 189)] [] S1 d (0, 0) Q
  refine m_aload_n (pc' := 1) dX2_add_0 rfl rfl ?_
  refine m_getR (pc' := 4) fa_X2_add_14 dX2_add_1 (by decide) rfl rfl rfl rfl ?_
  refine m_aload_n (pc' := 5) dX2_add_4 rfl rfl ?_
  refine m_getI (pc' := 8) fa_X2_add_24 dX2_add_5 (by decide) rfl rfl rfl ?_
  rw [show (d.1 9 1) = (nI nx) from h9]
  refine m_iconst (pc' := 9) (v := 0) dX2_add_8 (by decide) rfl ?_
  refine m_iload_n (pc' := 10) dX2_add_9 rfl rfl ?_
  refine m_callV (pc' := 13) (A := [.int (nI nx), .int 0, .int v]) (rest := []) (b := 10) cl_X2_add_31 dX2_add_10 rfl rfl (Nat.le_of_ble_eq_true rfl) ⟨by decide, by decide⟩ (by decide) rfl rfl rfl rfl ?_
  refine c_putN (t := 10) (W := 5) (L := 160) (a := nx) (b := 0) (k := 5 * nx) (isT_lit (by decide +kernel)) (by decide) (by omega) (by omega) ?_
  show mM G mX2_add 13 [some (.ref 9), some (.int v), some (.ref 189)] [] S1 (u2 d.1 11 (5 * nx) v, d.2) (0, 0) Q
  refine m_aload_n (pc' := 14) dX2_add_13 rfl rfl ?_
  refine m_getR (pc' := 17) fa_X2_add_14 dX2_add_14 (by decide) rfl rfl rfl rfl ?_
  refine m_aload_n (pc' := 18) dX2_add_17 rfl rfl ?_
  refine m_getI (pc' := 21) fa_X2_add_24 dX2_add_18 (by decide) rfl rfl rfl ?_
  show mM G mX2_add 21 [some (.ref 9), some (.int v), some (.ref 189)] [.int (d.1 9 1), .ref 10] S1 (u2 d.1 11 (5 * nx) v, d.2) (0, 0) Q
  rw [show (d.1 9 1) = (nI nx) from h9]
  refine m_iconst (pc' := 22) (v := 1) dX2_add_21 (by decide) rfl ?_
  refine m_aload_n (pc' := 23) dX2_add_22 rfl rfl ?_
  refine m_getI (pc' := 26) fa_X2_add_35 dX2_add_23 (by decide) rfl rfl rfl ?_
  show mM G mX2_add 26 [some (.ref 9), some (.int v), some (.ref 189)] [.int (d.1 189 1), .int 1, .int (nI nx), .ref 10] S1 (u2 d.1 11 (5 * nx) v, d.2) (0, 0) Q
  rw [show (d.1 189 1) = (nI (t + 1)) from ht]
  refine m_iconst (pc' := 27) (v := 1) dX2_add_26 (by decide) rfl ?_
  refine m_isub (pc' := 28) dX2_add_27 rfl ?_
  rw [show ((nI (t + 1)) - 1) = (nI t) from nI_pred t]
  refine m_callV (pc' := 31) (A := [.int (nI nx), .int 1, .int (nI t)]) (rest := []) (b := 10) cl_X2_add_31 dX2_add_28 rfl rfl (Nat.le_of_ble_eq_true rfl) ⟨by decide, by decide⟩ (by decide) rfl rfl rfl rfl ?_
  refine c_putN (t := 10) (W := 5) (L := 160) (a := nx) (b := 1) (k := 5 * nx + 1) (isT_lit (by decide +kernel)) (by decide) (by omega) (by omega) ?_
  show mM G mX2_add 31 [some (.ref 9), some (.int v), some (.ref 189)] [] S1 (u2 (u2 d.1 11 (5 * nx) v) 11 (5 * nx + 1) (nI t), d.2) (0, 0) Q
  refine m_aload_n (pc' := 32) dX2_add_31 rfl rfl ?_
  refine m_getR (pc' := 35) fa_X2_add_14 dX2_add_32 (by decide) rfl rfl rfl rfl ?_
  refine m_aload_n (pc' := 36) dX2_add_35 rfl rfl ?_
  refine m_getI (pc' := 39) fa_X2_add_24 dX2_add_36 (by decide) rfl rfl rfl ?_
  show mM G mX2_add 39 [some (.ref 9), some (.int v), some (.ref 189)] [.int (d.1 9 1), .ref 10] S1 (u2 (u2 d.1 11 (5 * nx) v) 11 (5 * nx + 1) (nI t), d.2) (0, 0) Q
  rw [show (d.1 9 1) = (nI nx) from h9]
  refine m_iconst (pc' := 40) (v := 2) dX2_add_39 (by decide) rfl ?_
  refine m_aload_n (pc' := 41) dX2_add_40 rfl rfl ?_
  refine m_getI (pc' := 44) fa_X2_add_40 dX2_add_41 (by decide) rfl rfl rfl ?_
  show mM G mX2_add 44 [some (.ref 9), some (.int v), some (.ref 189)] [.int (d.1 189 2), .int 2, .int (nI nx), .ref 10] S1 (u2 (u2 d.1 11 (5 * nx) v) 11 (5 * nx + 1) (nI t), d.2) (0, 0) Q
  refine m_callV (pc' := 47) (A := [.int (nI nx), .int 2, .int (d.1 189 2)]) (rest := []) (b := 10) cl_X2_add_31 dX2_add_44 rfl rfl (Nat.le_of_ble_eq_true rfl) ⟨by decide, by decide⟩ (by decide) rfl rfl rfl rfl ?_
  refine c_putN (t := 10) (W := 5) (L := 160) (a := nx) (b := 2) (k := 5 * nx + 2) (isT_lit (by decide +kernel)) (by decide) (by omega) (by omega) ?_
  show mM G mX2_add 47 [some (.ref 9), some (.int v), some (.ref 189)] [] S1 (u2 (u2 (u2 d.1 11 (5 * nx) v) 11 (5 * nx + 1) (nI t)) 11 (5 * nx + 2) (d.1 189 2), d.2) (0, 0) Q
  refine m_aload_n (pc' := 48) dX2_add_47 rfl rfl ?_
  refine m_getR (pc' := 51) fa_X2_add_14 dX2_add_48 (by decide) rfl rfl rfl rfl ?_
  refine m_aload_n (pc' := 52) dX2_add_51 rfl rfl ?_
  refine m_getI (pc' := 55) fa_X2_add_24 dX2_add_52 (by decide) rfl rfl rfl ?_
  show mM G mX2_add 55 [some (.ref 9), some (.int v), some (.ref 189)] [.int (d.1 9 1), .ref 10] S1 (u2 (u2 (u2 d.1 11 (5 * nx) v) 11 (5 * nx + 1) (nI t)) 11 (5 * nx + 2) (d.1 189 2), d.2) (0, 0) Q
  rw [show (d.1 9 1) = (nI nx) from h9]
  refine m_iconst (pc' := 56) (v := 3) dX2_add_55 (by decide) rfl ?_
  refine m_aload_n (pc' := 57) dX2_add_56 rfl rfl ?_
  refine m_getI (pc' := 60) fa_X2_add_43 dX2_add_57 (by decide) rfl rfl rfl ?_
  show mM G mX2_add 60 [some (.ref 9), some (.int v), some (.ref 189)] [.int (d.1 189 3), .int 3, .int (nI nx), .ref 10] S1 (u2 (u2 (u2 d.1 11 (5 * nx) v) 11 (5 * nx + 1) (nI t)) 11 (5 * nx + 2) (d.1 189 2), d.2) (0, 0) Q
  refine m_callV (pc' := 63) (A := [.int (nI nx), .int 3, .int (d.1 189 3)]) (rest := []) (b := 10) cl_X2_add_31 dX2_add_60 rfl rfl (Nat.le_of_ble_eq_true rfl) ⟨by decide, by decide⟩ (by decide) rfl rfl rfl rfl ?_
  refine c_putN (t := 10) (W := 5) (L := 160) (a := nx) (b := 3) (k := 5 * nx + 3) (isT_lit (by decide +kernel)) (by decide) (by omega) (by omega) ?_
  show mM G mX2_add 63 [some (.ref 9), some (.int v), some (.ref 189)] [] S1 (u2 (u2 (u2 (u2 d.1 11 (5 * nx) v) 11 (5 * nx + 1) (nI t)) 11 (5 * nx + 2) (d.1 189 2)) 11 (5 * nx + 3) (d.1 189 3), d.2) (0, 0) Q
  refine m_aload_n (pc' := 64) dX2_add_63 rfl rfl ?_
  refine m_getR (pc' := 67) fa_X2_add_14 dX2_add_64 (by decide) rfl rfl rfl rfl ?_
  refine m_aload_n (pc' := 68) dX2_add_67 rfl rfl ?_
  refine m_getI (pc' := 71) fa_X2_add_24 dX2_add_68 (by decide) rfl rfl rfl ?_
  show mM G mX2_add 71 [some (.ref 9), some (.int v), some (.ref 189)] [.int (d.1 9 1), .ref 10] S1 (u2 (u2 (u2 (u2 d.1 11 (5 * nx) v) 11 (5 * nx + 1) (nI t)) 11 (5 * nx + 2) (d.1 189 2)) 11 (5 * nx + 3) (d.1 189 3), d.2) (0, 0) Q
  rw [show (d.1 9 1) = (nI nx) from h9]
  refine m_iconst (pc' := 72) (v := 4) dX2_add_71 (by decide) rfl ?_
  refine m_aload_n (pc' := 73) dX2_add_72 rfl rfl ?_
  refine m_callV (pc' := 76) (A := []) (rest := [.int 4, .int (nI nx), .ref 10]) (b := 189) cl_X2_add_46 dX2_add_73 rfl rfl (Nat.le_of_ble_eq_true rfl) ⟨by decide, by decide⟩ (by decide) rfl rfl rfl rfl ?_
  refine c_error ?_
  show mM G mX2_add 76 [some (.ref 9), some (.int v), some (.ref 189)] [.int (d.1 189 2 - d.1 189 4), .int 4, .int (nI nx), .ref 10] S1 (u2 (u2 (u2 (u2 d.1 11 (5 * nx) v) 11 (5 * nx + 1) (nI t)) 11 (5 * nx + 2) (d.1 189 2)) 11 (5 * nx + 3) (d.1 189 3), d.2) (0, 0) Q
  refine m_callV (pc' := 79) (A := [.int (nI nx), .int 4, .int (d.1 189 2 - d.1 189 4)]) (rest := []) (b := 10) cl_X2_add_31 dX2_add_76 rfl rfl (Nat.le_of_ble_eq_true rfl) ⟨by decide, by decide⟩ (by decide) rfl rfl rfl rfl ?_
  refine c_putN (t := 10) (W := 5) (L := 160) (a := nx) (b := 4) (k := 5 * nx + 4) (isT_lit (by decide +kernel)) (by decide) (by omega) (by omega) ?_
  show mM G mX2_add 79 [some (.ref 9), some (.int v), some (.ref 189)] [] S1 (u2 (u2 (u2 (u2 (u2 d.1 11 (5 * nx) v) 11 (5 * nx + 1) (nI t)) 11 (5 * nx + 2) (d.1 189 2)) 11 (5 * nx + 3) (d.1 189 3)) 11 (5 * nx + 4) (d.1 189 2 - d.1 189 4), d.2) (0, 0) Q
  refine m_aload_n (pc' := 80) dX2_add_79 rfl rfl ?_
  refine m_aload_n (pc' := 81) dX2_add_80 rfl rfl ?_
  refine m_getI (pc' := 84) fa_X2_add_24 dX2_add_81 (by decide) rfl rfl rfl ?_
  show mM G mX2_add 84 [some (.ref 9), some (.int v), some (.ref 189)] [.int (d.1 9 1), .ref 9] S1 (u2 (u2 (u2 (u2 (u2 d.1 11 (5 * nx) v) 11 (5 * nx + 1) (nI t)) 11 (5 * nx + 2) (d.1 189 2)) 11 (5 * nx + 3) (d.1 189 3)) 11 (5 * nx + 4) (d.1 189 2 - d.1 189 4), d.2) (0, 0) Q
  rw [show (d.1 9 1) = (nI nx) from h9]
  refine m_iconst (pc' := 85) (v := 1) dX2_add_84 (by decide) rfl ?_
  refine m_iadd (pc' := 86) dX2_add_85 rfl ?_
  rw [show ((nI nx) + 1) = (nI (nx + 1)) from nI_1 nx]
  refine m_bipush (pc' := 88) (v := 32) dX2_add_86 (by decide) rfl ?_
  refine m_irem (pc' := 89) dX2_add_88 (by decide) rfl ?_
  rw [show ((nI (nx + 1)) - (nI (nx + 1)) / 32 * 32) = (nI ((nx + 1) % 32)) from pk_rem (d := 32) (by omega) (by decide) (by decide)]
  refine m_putI (pc' := 92) (ty := .int) fa_X2_add_24 dX2_add_89 (by decide +kernel) rfl rfl (by decide) rfl rfl rfl ?_
  refine m_aload_n (pc' := 93) dX2_add_92 rfl rfl ?_
  refine m_aload_n (pc' := 94) dX2_add_93 rfl rfl ?_
  refine m_getI (pc' := 97) fa_X2_add_28 dX2_add_94 (by decide) rfl rfl rfl ?_
  show mM G mX2_add 97 [some (.ref 9), some (.int v), some (.ref 189)] [.int (d.1 9 2), .ref 9] S1 (u2 (u2 (u2 (u2 (u2 (u2 d.1 11 (5 * nx) v) 11 (5 * nx + 1) (nI t)) 11 (5 * nx + 2) (d.1 189 2)) 11 (5 * nx + 3) (d.1 189 3)) 11 (5 * nx + 4) (d.1 189 2 - d.1 189 4)) 9 1 (nI ((nx + 1) % 32)), d.2) (0, 0) Q
  rw [show (d.1 9 2) = (nI c) from h92]
  refine m_iconst (pc' := 98) (v := 1) dX2_add_97 (by decide) rfl ?_
  refine m_iadd (pc' := 99) dX2_add_98 rfl ?_
  rw [show ((nI c) + 1) = (nI (c + 1)) from nI_1 c]
  refine m_bipush (pc' := 101) (v := 32) dX2_add_99 (by decide) rfl ?_
  refine m_mmin (pc' := 104) wm_X2_add_50 dX2_add_101 (Nat.le_of_ble_eq_true rfl) ⟨by decide, by decide⟩ rfl ?_
  rw [show (if 32 < (nI (c + 1)) then 32 else (nI (c + 1))) = (nI (lgn c)) from min32 hc]
  refine m_putI (pc' := 107) (ty := .int) fa_X2_add_28 dX2_add_104 (by decide +kernel) rfl rfl (by decide) rfl rfl rfl ?_
  refine m_vret dX2_add_107 rfl ⟨by decide, by decide⟩ ?_
  have q0 : ∀ x j, x ≠ 9 → (u2 (u2 (u2 (u2 (u2 (u2 (u2 d.1 11 (5 * nx) v) 11 (5 * nx + 1) (nI t)) 11 (5 * nx + 2) (d.1 189 2)) 11 (5 * nx + 3) (d.1 189 3)) 11 (5 * nx + 4) (d.1 189 2 - d.1 189 4)) 9 1 (nI ((nx + 1) % 32))) 9 2 (nI (lgn c))) x j = (u2 (u2 (u2 (u2 (u2 d.1 11 (5 * nx) v) 11 (5 * nx + 1) (nI t)) 11 (5 * nx + 2) (d.1 189 2)) 11 (5 * nx + 3) (d.1 189 3)) 11 (5 * nx + 4) (d.1 189 2 - d.1 189 4)) x j := fun x j hx => (congrFun (u2_ne hx) j).trans (congrFun (u2_ne hx) j)
  have q2 : (u2 (u2 (u2 (u2 (u2 (u2 (u2 d.1 11 (5 * nx) v) 11 (5 * nx + 1) (nI t)) 11 (5 * nx + 2) (d.1 189 2)) 11 (5 * nx + 3) (d.1 189 3)) 11 (5 * nx + 4) (d.1 189 2 - d.1 189 4)) 9 1 (nI ((nx + 1) % 32))) 9 2 (nI (lgn c))) 9 2 = nI (lgn c) := u2_same
  have q1 : (u2 (u2 (u2 (u2 (u2 (u2 (u2 d.1 11 (5 * nx) v) 11 (5 * nx + 1) (nI t)) 11 (5 * nx + 2) (d.1 189 2)) 11 (5 * nx + 3) (d.1 189 3)) 11 (5 * nx + 4) (d.1 189 2 - d.1 189 4)) 9 1 (nI ((nx + 1) % 32))) 9 2 (nI (lgn c))) 9 1 = nI ((nx + 1) % 32) := (u2_oth (show 1 ≠ 2 by decide) 9).trans u2_same
  have r4 : (u2 (u2 (u2 (u2 (u2 d.1 11 (5 * nx) v) 11 (5 * nx + 1) (nI t)) 11 (5 * nx + 2) (d.1 189 2)) 11 (5 * nx + 3) (d.1 189 3)) 11 (5 * nx + 4) (d.1 189 2 - d.1 189 4)) 11 (5 * nx + 4) = (d.1 189 2 - d.1 189 4) := u2_same
  have r3 : (u2 (u2 (u2 (u2 (u2 d.1 11 (5 * nx) v) 11 (5 * nx + 1) (nI t)) 11 (5 * nx + 2) (d.1 189 2)) 11 (5 * nx + 3) (d.1 189 3)) 11 (5 * nx + 4) (d.1 189 2 - d.1 189 4)) 11 (5 * nx + 3) = (d.1 189 3) := by
    rw [u2_oth (show 5 * nx + 3 ≠ 5 * nx + 4 by omega) 11]; exact u2_same
  have r2 : (u2 (u2 (u2 (u2 (u2 d.1 11 (5 * nx) v) 11 (5 * nx + 1) (nI t)) 11 (5 * nx + 2) (d.1 189 2)) 11 (5 * nx + 3) (d.1 189 3)) 11 (5 * nx + 4) (d.1 189 2 - d.1 189 4)) 11 (5 * nx + 2) = (d.1 189 2) := by
    rw [u2_oth (show 5 * nx + 2 ≠ 5 * nx + 4 by omega) 11, u2_oth (show 5 * nx + 2 ≠ 5 * nx + 3 by omega) 11]; exact u2_same
  have r1 : (u2 (u2 (u2 (u2 (u2 d.1 11 (5 * nx) v) 11 (5 * nx + 1) (nI t)) 11 (5 * nx + 2) (d.1 189 2)) 11 (5 * nx + 3) (d.1 189 3)) 11 (5 * nx + 4) (d.1 189 2 - d.1 189 4)) 11 (5 * nx + 1) = (nI t) := by
    rw [u2_oth (show 5 * nx + 1 ≠ 5 * nx + 4 by omega) 11, u2_oth (show 5 * nx + 1 ≠ 5 * nx + 3 by omega) 11, u2_oth (show 5 * nx + 1 ≠ 5 * nx + 2 by omega) 11]; exact u2_same
  have r0 : (u2 (u2 (u2 (u2 (u2 d.1 11 (5 * nx) v) 11 (5 * nx + 1) (nI t)) 11 (5 * nx + 2) (d.1 189 2)) 11 (5 * nx + 3) (d.1 189 3)) 11 (5 * nx + 4) (d.1 189 2 - d.1 189 4)) 11 (5 * nx) = v := by
    rw [u2_oth (show 5 * nx ≠ 5 * nx + 4 by omega) 11, u2_oth (show 5 * nx ≠ 5 * nx + 3 by omega) 11, u2_oth (show 5 * nx ≠ 5 * nx + 2 by omega) 11, u2_oth (show 5 * nx ≠ 5 * nx + 1 by omega) 11]; exact u2_same
  have rn : ∀ j, ¬ (5 * nx ≤ j ∧ j < 5 * nx + 5) → (u2 (u2 (u2 (u2 (u2 d.1 11 (5 * nx) v) 11 (5 * nx + 1) (nI t)) 11 (5 * nx + 2) (d.1 189 2)) 11 (5 * nx + 3) (d.1 189 3)) 11 (5 * nx + 4) (d.1 189 2 - d.1 189 4)) 11 j = d.1 11 j := fun j hj => by
    rw [u2_oth (show j ≠ 5 * nx + 4 by omega) 11, u2_oth (show j ≠ 5 * nx + 3 by omega) 11, u2_oth (show j ≠ 5 * nx + 2 by omega) 11, u2_oth (show j ≠ 5 * nx + 1 by omega) 11, u2_oth (show j ≠ 5 * nx by omega) 11]
  exact hQ ((u2 (u2 (u2 (u2 (u2 (u2 (u2 d.1 11 (5 * nx) v) 11 (5 * nx + 1) (nI t)) 11 (5 * nx + 2) (d.1 189 2)) 11 (5 * nx + 3) (d.1 189 3)) 11 (5 * nx + 4) (d.1 189 2 - d.1 189 4)) 9 1 (nI ((nx + 1) % 32))) 9 2 (nI (lgn c))), d.2) (((((((fr.rfl.i _ (Or.inl rfl)).i _ (Or.inl rfl)).i _ (Or.inl rfl)).i _ (Or.inl rfl)).i _ (Or.inl rfl)).i _ (Or.inr ⟨rfl, by decide⟩)).i _ (Or.inr ⟨rfl, by decide⟩)) (fun j hj => (q0 11 j (by decide)).trans (rn j hj)) ((q0 11 _ (by decide)).trans r0) ((q0 11 _ (by decide)).trans r1) ((q0 11 _ (by decide)).trans r2) ((q0 11 _ (by decide)).trans r3) ((q0 11 _ (by decide)).trans r4) q1 q2
set_option maxHeartbeats 4000000 in
set_option maxRecDepth 100000 in
theorem c_sao0  (hQ : Q (some (.int 0)) S1 d) : mC G mX6_slotAccountOf [.int 0] S1 d Q := by
  refine mC_of (by decide +kernel) ⟨_, rfl⟩ (Nat.le_of_ble_eq_true rfl) ?_
  show mM G mX6_slotAccountOf 0 [some (.int 0)] [] S1 d (0, 0) Q
  refine m_iload_n (pc' := 1) dX6_slotAccountOf_0 rfl rfl ?_
  refine m_lookup (tgt := 32) (off := 31) dX6_slotAccountOf_1 (by decide) (by decide) (by decide) ?_
  refine m_iconst (pc' := 33) (v := 0) dX6_slotAccountOf_32 (by decide) rfl ?_
  refine m_iret dX6_slotAccountOf_33 rfl rfl ⟨by decide, by decide⟩ ?_
  exact hQ
set_option maxHeartbeats 4000000 in
set_option maxRecDepth 100000 in
theorem c_sao1  (hQ : Q (some (.int 0)) S1 d) : mC G mX6_slotAccountOf [.int 1] S1 d Q := by
  refine mC_of (by decide +kernel) ⟨_, rfl⟩ (Nat.le_of_ble_eq_true rfl) ?_
  show mM G mX6_slotAccountOf 0 [some (.int 1)] [] S1 d (0, 0) Q
  refine m_iload_n (pc' := 1) dX6_slotAccountOf_0 rfl rfl ?_
  refine m_lookup (tgt := 32) (off := 31) dX6_slotAccountOf_1 (by decide) (by decide) (by decide) ?_
  refine m_iconst (pc' := 33) (v := 0) dX6_slotAccountOf_32 (by decide) rfl ?_
  refine m_iret dX6_slotAccountOf_33 rfl rfl ⟨by decide, by decide⟩ ?_
  exact hQ
set_option maxHeartbeats 4000000 in
set_option maxRecDepth 100000 in
theorem c_sao2  (hQ : Q (some (.int 0)) S1 d) : mC G mX6_slotAccountOf [.int 2] S1 d Q := by
  refine mC_of (by decide +kernel) ⟨_, rfl⟩ (Nat.le_of_ble_eq_true rfl) ?_
  show mM G mX6_slotAccountOf 0 [some (.int 2)] [] S1 d (0, 0) Q
  refine m_iload_n (pc' := 1) dX6_slotAccountOf_0 rfl rfl ?_
  refine m_lookup (tgt := 32) (off := 31) dX6_slotAccountOf_1 (by decide) (by decide) (by decide) ?_
  refine m_iconst (pc' := 33) (v := 0) dX6_slotAccountOf_32 (by decide) rfl ?_
  refine m_iret dX6_slotAccountOf_33 rfl rfl ⟨by decide, by decide⟩ ?_
  exact hQ
set_option maxHeartbeats 4000000 in
set_option maxRecDepth 100000 in
theorem c_sao3  (hQ : Q (some (.int 0)) S1 d) : mC G mX6_slotAccountOf [.int 3] S1 d Q := by
  refine mC_of (by decide +kernel) ⟨_, rfl⟩ (Nat.le_of_ble_eq_true rfl) ?_
  show mM G mX6_slotAccountOf 0 [some (.int 3)] [] S1 d (0, 0) Q
  refine m_iload_n (pc' := 1) dX6_slotAccountOf_0 rfl rfl ?_
  refine m_lookup (tgt := 32) (off := 31) dX6_slotAccountOf_1 (by decide) (by decide) (by decide) ?_
  refine m_iconst (pc' := 33) (v := 0) dX6_slotAccountOf_32 (by decide) rfl ?_
  refine m_iret dX6_slotAccountOf_33 rfl rfl ⟨by decide, by decide⟩ ?_
  exact hQ
set_option maxHeartbeats 4000000 in
set_option maxRecDepth 100000 in
theorem c_sao4  (hQ : Q (some (.int 0)) S1 d) : mC G mX6_slotAccountOf [.int 4] S1 d Q := by
  refine mC_of (by decide +kernel) ⟨_, rfl⟩ (Nat.le_of_ble_eq_true rfl) ?_
  show mM G mX6_slotAccountOf 0 [some (.int 4)] [] S1 d (0, 0) Q
  refine m_iload_n (pc' := 1) dX6_slotAccountOf_0 rfl rfl ?_
  refine m_lookup (tgt := 32) (off := 31) dX6_slotAccountOf_1 (by decide) (by decide) (by decide) ?_
  refine m_iconst (pc' := 33) (v := 0) dX6_slotAccountOf_32 (by decide) rfl ?_
  refine m_iret dX6_slotAccountOf_33 rfl rfl ⟨by decide, by decide⟩ ?_
  exact hQ
set_option maxHeartbeats 4000000 in
set_option maxRecDepth 100000 in
theorem c_sao5  (hQ : Q (some (.int 0)) S1 d) : mC G mX6_slotAccountOf [.int 5] S1 d Q := by
  refine mC_of (by decide +kernel) ⟨_, rfl⟩ (Nat.le_of_ble_eq_true rfl) ?_
  show mM G mX6_slotAccountOf 0 [some (.int 5)] [] S1 d (0, 0) Q
  refine m_iload_n (pc' := 1) dX6_slotAccountOf_0 rfl rfl ?_
  refine m_lookup (tgt := 32) (off := 31) dX6_slotAccountOf_1 (by decide) (by decide) (by decide) ?_
  refine m_iconst (pc' := 33) (v := 0) dX6_slotAccountOf_32 (by decide) rfl ?_
  refine m_iret dX6_slotAccountOf_33 rfl rfl ⟨by decide, by decide⟩ ?_
  exact hQ
set_option maxHeartbeats 4000000 in
set_option maxRecDepth 100000 in
theorem c_sao6  (hQ : Q (some (.int 0)) S1 d) : mC G mX6_slotAccountOf [.int 6] S1 d Q := by
  refine mC_of (by decide +kernel) ⟨_, rfl⟩ (Nat.le_of_ble_eq_true rfl) ?_
  show mM G mX6_slotAccountOf 0 [some (.int 6)] [] S1 d (0, 0) Q
  refine m_iload_n (pc' := 1) dX6_slotAccountOf_0 rfl rfl ?_
  refine m_lookup (tgt := 32) (off := 31) dX6_slotAccountOf_1 (by decide) (by decide) (by decide) ?_
  refine m_iconst (pc' := 33) (v := 0) dX6_slotAccountOf_32 (by decide) rfl ?_
  refine m_iret dX6_slotAccountOf_33 rfl rfl ⟨by decide, by decide⟩ ?_
  exact hQ
set_option maxHeartbeats 4000000 in
set_option maxRecDepth 100000 in
theorem c_sao7  (hQ : Q (some (.int 0)) S1 d) : mC G mX6_slotAccountOf [.int 7] S1 d Q := by
  refine mC_of (by decide +kernel) ⟨_, rfl⟩ (Nat.le_of_ble_eq_true rfl) ?_
  show mM G mX6_slotAccountOf 0 [some (.int 7)] [] S1 d (0, 0) Q
  refine m_iload_n (pc' := 1) dX6_slotAccountOf_0 rfl rfl ?_
  refine m_lookup (tgt := 32) (off := 31) dX6_slotAccountOf_1 (by decide) (by decide) (by decide) ?_
  refine m_iconst (pc' := 33) (v := 0) dX6_slotAccountOf_32 (by decide) rfl ?_
  refine m_iret dX6_slotAccountOf_33 rfl rfl ⟨by decide, by decide⟩ ?_
  exact hQ
set_option maxHeartbeats 4000000 in
set_option maxRecDepth 100000 in
theorem c_sao8  (hQ : Q (some (.int 1)) S1 d) : mC G mX6_slotAccountOf [.int 8] S1 d Q := by
  refine mC_of (by decide +kernel) ⟨_, rfl⟩ (Nat.le_of_ble_eq_true rfl) ?_
  show mM G mX6_slotAccountOf 0 [some (.int 8)] [] S1 d (0, 0) Q
  refine m_iload_n (pc' := 1) dX6_slotAccountOf_0 rfl rfl ?_
  refine m_lookup (tgt := 28) (off := 27) dX6_slotAccountOf_1 (by decide) (by decide) (by decide) ?_
  refine m_iconst (pc' := 29) (v := 1) dX6_slotAccountOf_28 (by decide) rfl ?_
  refine m_iret dX6_slotAccountOf_29 rfl rfl ⟨by decide, by decide⟩ ?_
  exact hQ
set_option maxHeartbeats 4000000 in
set_option maxRecDepth 100000 in
theorem c_sao9  (hQ : Q (some (.int 2)) S1 d) : mC G mX6_slotAccountOf [.int 9] S1 d Q := by
  refine mC_of (by decide +kernel) ⟨_, rfl⟩ (Nat.le_of_ble_eq_true rfl) ?_
  show mM G mX6_slotAccountOf 0 [some (.int 9)] [] S1 d (0, 0) Q
  refine m_iload_n (pc' := 1) dX6_slotAccountOf_0 rfl rfl ?_
  refine m_lookup (tgt := 30) (off := 29) dX6_slotAccountOf_1 (by decide) (by decide) (by decide) ?_
  refine m_iconst (pc' := 31) (v := 2) dX6_slotAccountOf_30 (by decide) rfl ?_
  refine m_iret dX6_slotAccountOf_31 rfl rfl ⟨by decide, by decide⟩ ?_
  exact hQ
theorem c_sao {p : Nat} (hp : p ≤ 9) (hQ : Q (some (.int (nI (nai p - 88)))) S1 d) : mC G mX6_slotAccountOf [.int (nI p)] S1 d Q := by
  rcases (show p = 0 ∨ p = 1 ∨ p = 2 ∨ p = 3 ∨ p = 4 ∨ p = 5 ∨ p = 6 ∨ p = 7 ∨ p = 8 ∨ p = 9 by omega) with rfl | rfl | rfl | rfl | rfl | rfl | rfl | rfl | rfl | rfl
  · exact c_sao0 hQ
  · exact c_sao1 hQ
  · exact c_sao2 hQ
  · exact c_sao3 hQ
  · exact c_sao4 hQ
  · exact c_sao5 hQ
  · exact c_sao6 hQ
  · exact c_sao7 hQ
  · exact c_sao8 hQ
  · exact c_sao9 hQ
theorem c_addToF {i : Nat} {v : Int32} (hi : i < 6) (hQ : ∀ d', fr (fun x j => x = 15 ∧ j = i) nE d d' → d'.1 15 i = d.1 15 i + v → Q none S1 d') : mC G mX6_addTo [.ref 1, .int (nI i), .int v] S1 d Q := by
  refine c_addTo hi (hQ _ (fr.i fr.rfl _ ⟨rfl, rfl⟩) ?_)
  show u2 d.1 15 i (d.1 15 i + v) 15 i = _
  exact u2_same
set_option maxHeartbeats 4000000 in
set_option maxRecDepth 100000 in
theorem c_book {p q t c : Nat} {r cc ev : Int32} {hh : UInt32} (hp : p ≤ 9) (hT : TR d 1 s h) (hc : c ≤ 32) (h77 : s 77 = nI c) (ht : d.1 189 1 = nI (t + 1)) (hr : d.1 189 2 = r) (hcc : d.1 189 3 = cc) (hev : d.1 189 2 - d.1 189 4 = ev) (hch : d.2 189 0 = hh) (hrr : ∃ y : Nat, y ≤ 4095 ∧ r = nI y) (hQ : ∀ d', fr bkE bkF d d' → TR d' 1 (ntS s c p q (nI t) r cc ev) hh → Q none S1 d') : mC G mX6_book [.ref 1, .int (nI p), .int (nI (q + 1)), .ref 189] S1 d Q := by
  have hn3 := nai_3 p hp
  obtain ⟨nx, c', hnx, hc', l3, l4, l5, l6⟩ := hT.2.1
  obtain rfl : c = c' := (nI_eq (by omega) (by omega)).mp (h77.symm.trans l5)
  refine mC_of (by decide +kernel) ⟨_, rfl⟩ (Nat.le_of_ble_eq_true rfl) ?_
  show mM G mX6_book 0 [some (.ref 1), some (.int (nI p)), some (.int (nI (q + 1))), some (.ref 189)] [] S1 d (0, 0) Q
  refine m_aload_n (pc' := 1) dX6_book_0 rfl rfl ?_
  refine m_getR (pc' := 4) fa_X6_book_21 dX6_book_1 (by decide) rfl rfl rfl rfl ?_
  refine m_iload_n (pc' := 5) dX6_book_4 rfl rfl ?_
  refine m_aload_n (pc' := 6) dX6_book_5 rfl rfl ?_
  refine m_callV (pc' := 9) (A := [.int (nI p), .ref 189]) (rest := []) (b := 9) cl_X6_book_77 dX6_book_6 rfl rfl (Nat.le_of_ble_eq_true rfl) ⟨by decide, by decide⟩ (by decide) rfl rfl rfl rfl ?_
  refine c_logadd (nx := nx) (c := c) (t := t) (v := nI p) hnx hc l3 l4 ht (fun e e0 en w0 w1 w2 w3 w4 e1 e2 => ?_)
  show mM G mX6_book 9 [some (.ref 1), some (.int (nI p)), some (.int (nI (q + 1))), some (.ref 189)] [] S1 e (0, 0) Q
  refine m_aload_n (pc' := 10) dX6_book_9 rfl rfl ?_
  refine m_getR (pc' := 13) fa_X6_book_30 dX6_book_10 (by decide) rfl rfl rfl rfl ?_
  refine m_iload_n (pc' := 14) dX6_book_13 rfl rfl ?_
  refine m_iconst (pc' := 15) (v := 0) dX6_book_14 (by decide) rfl ?_
  refine m_aload_n (pc' := 16) dX6_book_15 rfl rfl ?_
  refine m_getI (pc' := 19) fa_X6_book_81 dX6_book_16 (by decide) rfl rfl rfl ?_
  rw [show (e.1 189 2) = r from (e0.1 189 2 (by omega)).trans hr]
  refine m_callV (pc' := 22) (A := [.int (nI p), .int 0, .int r]) (rest := []) (b := 12) cl_X6_book_48 dX6_book_19 rfl rfl (Nat.le_of_ble_eq_true rfl) ⟨by decide, by decide⟩ (by decide) rfl rfl rfl rfl ?_
  refine c_putN (t := 12) (W := 1) (L := 10) (a := p) (b := 0) (k := p) (isT_lit (by decide +kernel)) (by decide) (by omega) (by omega) ?_
  show mM G mX6_book 22 [some (.ref 1), some (.int (nI p)), some (.int (nI (q + 1))), some (.ref 189)] [] S1 (u2 e.1 13 p r, e.2) (0, 0) Q
  refine m_aload_n (pc' := 23) dX6_book_22 rfl rfl ?_
  refine m_iload_n (pc' := 24) dX6_book_23 rfl rfl ?_
  refine m_callS (pc' := 27) (A := [.int (nI p)]) (rest := [.ref 1]) cl_X6_book_87 dX6_book_24 rfl rfl (Nat.le_of_ble_eq_true rfl) ⟨by decide, by decide⟩ rfl rfl ?_
  refine c_sao hp ?_
  show mM G mX6_book 27 [some (.ref 1), some (.int (nI p)), some (.int (nI (q + 1))), some (.ref 189)] [.int (nI (nai p - 88)), .ref 1] S1 (u2 e.1 13 p r, e.2) (0, 0) Q
  refine m_iload_n (pc' := 28) dX6_book_27 rfl rfl ?_
  refine m_callV (pc' := 31) (A := [.int (nI (nai p - 88)), .int (nI (q + 1))]) (rest := []) (b := 1) cl_X6_book_91 dX6_book_28 rfl rfl (Nat.le_of_ble_eq_true rfl) ⟨by decide, by decide⟩ (by decide) rfl rfl rfl rfl ?_
  refine c_addToF (i := nai p - 88) (v := nI (q + 1)) (by omega) (fun x1 f1 v1 => ?_)
  show mM G mX6_book 31 [some (.ref 1), some (.int (nI p)), some (.int (nI (q + 1))), some (.ref 189)] [] S1 x1 (0, 0) Q
  refine m_aload_n (pc' := 32) dX6_book_31 rfl rfl ?_
  refine m_iconst (pc' := 33) (v := 4) dX6_book_32 (by decide) rfl ?_
  refine m_iconst (pc' := 34) (v := 1) dX6_book_33 (by decide) rfl ?_
  refine m_callV (pc' := 37) (A := [.int 4, .int 1]) (rest := []) (b := 1) cl_X6_book_91 dX6_book_34 rfl rfl (Nat.le_of_ble_eq_true rfl) ⟨by decide, by decide⟩ (by decide) rfl rfl rfl rfl ?_
  refine c_addToF (i := 4) (v := 1) (by omega) (fun x2 f2 v2 => ?_)
  show mM G mX6_book 37 [some (.ref 1), some (.int (nI p)), some (.int (nI (q + 1))), some (.ref 189)] [] S1 x2 (0, 0) Q
  refine m_aload_n (pc' := 38) dX6_book_37 rfl rfl ?_
  refine m_iconst (pc' := 39) (v := 5) dX6_book_38 (by decide) rfl ?_
  refine m_aload_n (pc' := 40) dX6_book_39 rfl rfl ?_
  refine m_getI (pc' := 43) fa_X6_book_94 dX6_book_40 (by decide) rfl rfl rfl ?_
  rw [show (x2.1 189 3) = cc from (f2.1 189 3 (by omega)).trans ((f1.1 189 3 (by omega)).trans ((show (u2 e.1 13 p r) 189 3 = e.1 189 3 from congrFun (u2_ne (show 189 ≠ 13 by decide)) 3).trans ((e0.1 189 3 (by omega)).trans hcc)))]
  refine m_mabs (pc' := 46) wm_X6_book_97 dX6_book_43 (Nat.le_of_ble_eq_true rfl) ⟨by decide, by decide⟩ rfl ?_
  rw [show (if 0 ≤ cc then cc else 0 - cc) = (siz cc) from siz_abs _]
  refine m_callV (pc' := 49) (A := [.int 5, .int (siz cc)]) (rest := []) (b := 1) cl_X6_book_91 dX6_book_46 rfl rfl (Nat.le_of_ble_eq_true rfl) ⟨by decide, by decide⟩ (by decide) rfl rfl rfl rfl ?_
  refine c_addToF (i := 5) (v := siz cc) (by omega) (fun x3 f3 v3 => ?_)
  show mM G mX6_book 49 [some (.ref 1), some (.int (nI p)), some (.int (nI (q + 1))), some (.ref 189)] [] S1 x3 (0, 0) Q
  refine m_aload_n (pc' := 50) dX6_book_49 rfl rfl ?_
  refine m_aload_n (pc' := 51) dX6_book_50 rfl rfl ?_
  refine m_getF (pc' := 54) fa_X6_book_102 dX6_book_51 (by decide) rfl rfl rfl ?_
  rw [show (x3.2 189 0) = hh from (f3.2 189 0 id).trans ((f2.2 189 0 id).trans ((f1.2 189 0 id).trans ((e0.2 189 0 id).trans hch)))]
  refine m_putFl (pc' := 57) fa_X6_book_65 dX6_book_54 (by decide) rfl rfl rfl ?_
  refine m_vret dX6_book_57 rfl ⟨by decide, by decide⟩ ?_
  have fa : fr (fun x _ => x = 13) nE e (u2 e.1 13 p r, e.2) := fr.i fr.rfl _ rfl
  have gx : ∀ x j, x ≠ 15 → x3.1 x j = u2 e.1 13 p r x j := fun x j hx => ((f3.1 x j (fun q => hx q.1)).trans (f2.1 x j (fun q => hx q.1))).trans (f1.1 x j (fun q => hx q.1))
  have gy : ∀ x j, x ≠ 15 → x ≠ 13 → x3.1 x j = e.1 x j := fun x j h1 h2 => (gx x j h1).trans (fa.1 x j h2)
  have ga : ∀ j, u2 e.1 13 p r 15 j = d.1 15 j := fun j => (fa.1 15 j (show ¬ (15 = 13) by decide)).trans (e0.1 15 j (by omega))
  have gF : fr bkE bkF d x3 := ((((e0.mono (by intro x j z; omega) (fun _ _ => False.elim)).trans (fa.mono (by intro x j z; have : x = 13 := z; omega) (fun _ _ => False.elim))).trans (f1.mono (by intro x j z; omega) (fun _ _ => False.elim))).trans (f2.mono (by intro x j z; omega) (fun _ _ => False.elim))).trans (f3.mono (by intro x j z; omega) (fun _ _ => False.elim))
  refine hQ _ (gF.f _ rfl) (TR_book (d := d) (nx := nx) hp hT (gF.f _ rfl) hnx hc l3 h77 l6 (fun j hj => (gy 11 j (by decide) (by decide)).trans (en j hj)) ((gy 11 _ (by decide) (by decide)).trans w0) ((gy 11 _ (by decide) (by decide)).trans w1) ((gy 11 _ (by decide) (by decide)).trans (w2.trans hr)) ((gy 11 _ (by decide) (by decide)).trans (w3.trans hcc)) ((gy 11 _ (by decide) (by decide)).trans (w4.trans hev)) ((gy 9 _ (by decide) (by decide)).trans e1) ((gy 9 _ (by decide) (by decide)).trans e2) (fun j hj => ?_) ?_ hrr (fun i hi hia => ?_) ?_ ?_ ?_ (show u2 x3.2 1 6 hh 1 6 = hh from u2_same))
  · exact (gx 13 j (by decide)).trans ((u2_oth hj 13).trans (e0.1 13 j (by omega)))
  · exact (gx 13 p (by decide)).trans u2_same
  · exact (f3.1 15 i (by omega)).trans ((f2.1 15 i (by omega)).trans ((f1.1 15 i (by omega)).trans (ga i)))
  · refine (f3.1 15 _ (by omega)).trans ((f2.1 15 _ (by omega)).trans (v1.trans ?_))
    rw [nI_1]; exact congrArg (· + nI (q + 1)) (ga _)
  · exact (f3.1 15 4 (by omega)).trans (v2.trans (congrArg (· + 1) ((f1.1 15 4 (by omega)).trans (ga 4))))
  · exact v3.trans (congrArg (· + siz cc) ((f2.1 15 5 (by omega)).trans ((f1.1 15 5 (by omega)).trans (ga 5))))
abbrev onE (x j : Nat) : Prop := cvE x j ∨ bkE x j
abbrev onF (x j : Nat) : Prop := cvF x j ∨ bkF x j
set_option maxHeartbeats 4000000 in
set_option maxRecDepth 100000 in
theorem c_once {n b : Nat} {S : SC} (hl : okL s n) (hc : ∀ c, c < 8 → okC s c) (hb : b + 128 < 90000) (hI : scI s b S) (hT : TR d 1 S.1 S.2.2) (h1 : d.1 189 1 = nI S.2.1) (h0 : d.2 189 0 = S.2.2) (hQ : ∀ d', fr onE onF d d' → TR d' 1 (scL n S).1 (scL n S).2.2 → d'.1 189 1 = nI (scL n S).2.1 → d'.2 189 0 = (scL n S).2.2 → Q none S1 d') : mC G mX10_scanOnce [.ref 0] S1 d Q := by
  have hn16 := hl.1
  have J : ∀ (n0 : Nat) (i : Nat) (d1 : Dt) (_ : i + n0 = n) (_ : fr onE onF d d1) (_ : TR d1 1 (scL i S).1 (scL i S).2.2) (_ : d1.1 189 1 = nI (scL i S).2.1) (_ : d1.2 189 0 = (scL i S).2.2), mM G mX10_scanOnce 2 [some (.ref 0), some (.int (nI i))] [] S1 d1 (0, 0) Q := by
    intro n0
    induction n0 with
    | zero =>
      intro i d1 hk hd hT1 h1 h0
      obtain ⟨j1, j2, cnt, j3, j4⟩ := scI_L hl hI i (by omega)
      have hlx := okL_in j1 hl
      refine m_iload_n (pc' := 3) dX10_scanOnce_2 rfl rfl ?_
      refine m_aload_n (pc' := 4) dX10_scanOnce_3 rfl rfl ?_
      refine m_getR (pc' := 7) fa_X10_scanOnce_10 dX10_scanOnce_4 (by decide) rfl rfl rfl rfl ?_
      refine m_getR (pc' := 10) fa_X10_scanOnce_64 dX10_scanOnce_7 (by decide) rfl rfl rfl rfl ?_
      refine m_getI (pc' := 13) fa_X10_scanOnce_100 dX10_scanOnce_10 (by decide) rfl rfl rfl ?_
      rw [show (d1.1 2 3) = (nI n) from hT1.1.2.2.2.trans hlx.2.1]
      refine m_icmp_ge (tgt := 74) (pc' := 16) dX10_scanOnce_13 (by decide) rfl (fun h13 => ?_) (fun h13 => (h13 (nI_le (by omega) (by omega))).elim)
      refine m_vret dX10_scanOnce_74 rfl ⟨by decide, by decide⟩ ?_
      obtain rfl : i = n := by omega
      exact hQ d1 hd hT1 h1 h0
    | succ n0 ih =>
      intro i d1 hk hd hT1 h1 h0
      obtain ⟨j1, j2, cnt, j3, j4⟩ := scI_L hl hI i (by omega)
      have hlx := okL_in j1 hl
      have hi : i < n := by omega
      refine m_iload_n (pc' := 3) dX10_scanOnce_2 rfl rfl ?_
      refine m_aload_n (pc' := 4) dX10_scanOnce_3 rfl rfl ?_
      refine m_getR (pc' := 7) fa_X10_scanOnce_10 dX10_scanOnce_4 (by decide) rfl rfl rfl rfl ?_
      refine m_getR (pc' := 10) fa_X10_scanOnce_64 dX10_scanOnce_7 (by decide) rfl rfl rfl rfl ?_
      refine m_getI (pc' := 13) fa_X10_scanOnce_100 dX10_scanOnce_10 (by decide) rfl rfl rfl ?_
      rw [show (d1.1 2 3) = (nI n) from hT1.1.2.2.2.trans hlx.2.1]
      refine m_icmp_ge (tgt := 74) (pc' := 16) dX10_scanOnce_13 (by decide) rfl (fun h13 => absurd h13 (nI_ge (by omega) (by omega))) (fun h13 => ?_)
      refine m_aload_n (pc' := 17) dX10_scanOnce_16 rfl rfl ?_
      refine m_getR (pc' := 20) fa_X10_scanOnce_26 dX10_scanOnce_17 (by decide) rfl rfl rfl rfl ?_
      refine m_aload_n (pc' := 21) dX10_scanOnce_20 rfl rfl ?_
      refine m_getR (pc' := 24) fa_X10_scanOnce_10 dX10_scanOnce_21 (by decide) rfl rfl rfl rfl ?_
      refine m_getR (pc' := 27) fa_X10_scanOnce_64 dX10_scanOnce_24 (by decide) rfl rfl rfl rfl ?_
      refine m_iload_n (pc' := 28) dX10_scanOnce_27 rfl rfl ?_
      refine m_callV (pc' := 31) (A := [.ref 2, .int (nI i)]) (rest := []) (b := 189) cl_X10_scanOnce_266 dX10_scanOnce_28 rfl rfl (Nat.le_of_ble_eq_true rfl) ⟨by decide, by decide⟩ (by decide) rfl rfl rfl rfl ?_
      refine c_entry (n := n) (i := i) (t := (scL i S).2.1) (h := (scL i S).2.2) (s := (scL i S).1) (by decide) hT1.1 hlx (by omega) (fun c hc8 => okC_lo (lo_in j1) hc8 (hc c hc8)) (by omega) h1 h0 (fun e e0 eS e1 e9 e2 e3 e4 => ?_)
      show mM G mX10_scanOnce 31 [some (.ref 0), some (.int (nI i))] [] S1 e (0, 0) Q
      have eT : TR e 1 (scL i S).1 (scL i S).2.2 := TR_bk hT1 ⟨fun x j z1 z2 => e0.1 x j (by omega), fun j => e0.2 1 j (by omega)⟩
      refine m_aload_n (pc' := 32) dX10_scanOnce_31 rfl rfl ?_
      refine m_getR (pc' := 35) fa_X10_scanOnce_10 dX10_scanOnce_32 (by decide) rfl rfl rfl rfl ?_
      refine m_aload_n (pc' := 36) dX10_scanOnce_35 rfl rfl ?_
      refine m_getR (pc' := 39) fa_X10_scanOnce_10 dX10_scanOnce_36 (by decide) rfl rfl rfl rfl ?_
      refine m_getR (pc' := 42) fa_X10_scanOnce_64 dX10_scanOnce_39 (by decide) rfl rfl rfl rfl ?_
      refine m_getR (pc' := 45) fa_X10_scanOnce_118 dX10_scanOnce_42 (by decide) rfl rfl rfl rfl ?_
      refine m_iload_n (pc' := 46) dX10_scanOnce_45 rfl rfl ?_
      refine m_iconst (pc' := 47) (v := 0) dX10_scanOnce_46 (by decide) rfl ?_
      refine m_callV (pc' := 50) (A := [.int (nI i), .int 0]) (rest := [.ref 1]) (b := 5) cl_X10_scanOnce_71 dX10_scanOnce_47 rfl rfl (Nat.le_of_ble_eq_true rfl) ⟨by decide, by decide⟩ (by decide) rfl rfl rfl rfl ?_
      refine c_atN (t := 5) (W := 2) (L := 32) (a := i) (b := 0) (k := 2 * i) (isT_lit (by decide +kernel)) (by decide) (by omega) (by omega) ?_
      show mM G mX10_scanOnce 50 [some (.ref 0), some (.int (nI i))] [.int (e.1 6 (2 * i)), .ref 1] S1 e (0, 0) Q
      rw [show (e.1 6 (2 * i)) = (nI (pn (scL i S).1 i)) from (eS.2.1 (2 * i) (by omega)).trans (okL_p hlx hi).1]
      refine m_aload_n (pc' := 51) dX10_scanOnce_50 rfl rfl ?_
      refine m_getR (pc' := 54) fa_X10_scanOnce_10 dX10_scanOnce_51 (by decide) rfl rfl rfl rfl ?_
      refine m_getR (pc' := 57) fa_X10_scanOnce_64 dX10_scanOnce_54 (by decide) rfl rfl rfl rfl ?_
      refine m_iload_n (pc' := 58) dX10_scanOnce_57 rfl rfl ?_
      refine m_callV (pc' := 61) (A := [.int (nI i)]) (rest := [.int (nI (pn (scL i S).1 i)), .ref 1]) (b := 2) cl_X10_scanOnce_270 dX10_scanOnce_58 rfl rfl (Nat.le_of_ble_eq_true rfl) ⟨by decide, by decide⟩ (by decide) rfl rfl rfl rfl ?_
      refine c_slotsOfEntry (i := i) (s := (scL i S).1) (by decide) eS (by omega) ?_
      show mM G mX10_scanOnce 61 [some (.ref 0), some (.int (nI i))] [.int ((scL i S).1 (45 + 2 * i) + 1), .int (nI (pn (scL i S).1 i)), .ref 1] S1 e (0, 0) Q
      rw [show ((scL i S).1 (45 + 2 * i) + 1) = (nI (qn (scL i S).1 i + 1)) from (by rw [(okL_q hlx hi).1]; exact nI_1 _)]
      refine m_aload_n (pc' := 62) dX10_scanOnce_61 rfl rfl ?_
      refine m_getR (pc' := 65) fa_X10_scanOnce_26 dX10_scanOnce_62 (by decide) rfl rfl rfl rfl ?_
      refine m_callV (pc' := 68) (A := [.int (nI (pn (scL i S).1 i)), .int (nI (qn (scL i S).1 i + 1)), .ref 189]) (rest := []) (b := 1) cl_X10_scanOnce_273 dX10_scanOnce_65 rfl rfl (Nat.le_of_ble_eq_true rfl) ⟨by decide, by decide⟩ (by decide) rfl rfl rfl rfl ?_
      refine c_book (p := pn (scL i S).1 i) (q := qn (scL i S).1 i) (t := (scL i S).2.1 + qn (scL i S).1 i) (c := cnt) (r := xr (scL i S).1 (pn (scL i S).1 i) (qn (scL i S).1 i) (scL i S).2.1 (scL i S).2.2) (cc := xc (scL i S).1 (pn (scL i S).1 i) (qn (scL i S).1 i) (scL i S).2.1 (scL i S).2.2) (ev := xe (scL i S).1 (pn (scL i S).1 i) (qn (scL i S).1 i) (scL i S).2.1 (scL i S).2.2) (hh := xh (scL i S).1 (pn (scL i S).1 i) (qn (scL i S).1 i) (scL i S).2.1 (scL i S).2.2) (okL_p hlx hi).2 eT j3 j4 e1 e2 e3 (by rw [e2, e4]; rfl) e9 (rdb_ok _ _ _) (fun f f0 fT => ?_)
      show mM G mX10_scanOnce 68 [some (.ref 0), some (.int (nI i))] [] S1 f (0, 0) Q
      refine m_iinc (pc' := 71) dX10_scanOnce_68 rfl (by decide) (v := nI (i + 1)) (nI_1 i) rfl rfl ?_
      refine m_goto (tgt := 2) dX10_scanOnce_71 (by decide) ?_
      have en : nn ((scL i S).1 77) = cnt := by rw [j4]; exact nn_nI (by omega)
      have fT' : TR f 1 (scL (i + 1) S).1 (scL (i + 1) S).2.2 := by
        show TR f 1 (ntS (scL i S).1 (nn ((scL i S).1 77)) (pn (scL i S).1 i) (qn (scL i S).1 i) (nI ((scL i S).2.1 + qn (scL i S).1 i)) (xr (scL i S).1 (pn (scL i S).1 i) (qn (scL i S).1 i) (scL i S).2.1 (scL i S).2.2) (xc (scL i S).1 (pn (scL i S).1 i) (qn (scL i S).1 i) (scL i S).2.1 (scL i S).2.2) (xe (scL i S).1 (pn (scL i S).1 i) (qn (scL i S).1 i) (scL i S).2.1 (scL i S).2.2)) (xh (scL i S).1 (pn (scL i S).1 i) (qn (scL i S).1 i) (scL i S).2.1 (scL i S).2.2)
        rw [en]; exact fT
      exact ih (i + 1) f (by omega) ((hd.trans (e0.mono (fun _ _ z => Or.inl z) (fun _ _ z => Or.inl z))).trans (f0.mono (fun _ _ z => Or.inr z) (fun _ _ z => Or.inr z))) fT' ((f0.1 189 1 (by omega)).trans e1) ((f0.2 189 0 (by show ¬ (_ = _); omega)).trans e9)
  refine mC_of (by decide +kernel) ⟨_, rfl⟩ (Nat.le_of_ble_eq_true rfl) ?_
  show mM G mX10_scanOnce 0 [some (.ref 0), none] [] S1 d (0, 0) Q
  refine m_iconst (pc' := 1) (v := 0) dX10_scanOnce_0 (by decide) rfl ?_
  refine m_istore_n (pc' := 2) dX10_scanOnce_1 (by decide) rfl rfl ?_
  exact J n 0 d (by omega) fr.rfl hT h1 h0
set_option maxHeartbeats 4000000 in
set_option maxRecDepth 100000 in
theorem k_scan {A : AS} {k : Int32} (hC : CR d A) (hO : OK A) (hQ : ∀ d', cfr d d' → CR d' (opScan A k).2 → Q (some (.int (opScan A k).1)) S1 d') : mC G mX10_scan [.ref 0, .int k] S1 d Q := by
  by_cases hb : bin k 1 20 = 0
  · skip
    rw [show opScan A k = (eI, A) from if_pos hb] at hQ
    refine mC_of (by decide +kernel) ⟨_, rfl⟩ (Nat.le_of_ble_eq_true rfl) ?_
    show mM G mX10_scan 0 [some (.ref 0), some (.int k), none, none] [] S1 d (0, 0) Q
    refine m_iload_n (pc' := 1) dX10_scan_0 rfl rfl ?_
    refine m_iconst (pc' := 2) (v := 1) dX10_scan_1 (by decide) rfl ?_
    refine m_bipush (pc' := 4) (v := 20) dX10_scan_2 (by decide) rfl ?_
    refine m_callS (pc' := 7) (A := [.int k, .int 1, .int 20]) (rest := []) cl_X10_scan_81 dX10_scan_4 rfl rfl (Nat.le_of_ble_eq_true rfl) ⟨by decide, by decide⟩ rfl rfl ?_
    refine c_within ?_
    show mM G mX10_scan 7 [some (.ref 0), some (.int k), none, none] [.int (bin k 1 20)] S1 d (0, 0) Q
    rw [show (bin k 1 20) = 0 from hb]
    refine m_if_ne (tgt := 13) (pc' := 10) dX10_scan_7 (by decide) rfl (fun h7 => absurd h7 (by decide)) (fun h7 => ?_)
    refine m_ldc (pc' := 12) dX10_scan_10 kc_X10_scan_59 rfl ?_
    refine m_iret dX10_scan_12 rfl rfl ⟨by decide, by decide⟩ ?_
    exact hQ _ fr.rfl hC
  by_cases hz : a_s A 43 = 0
  · skip
    rw [show opScan A k = (eS, A) from by unfold opScan; rw [if_neg hb, if_pos hz]] at hQ
    refine mC_of (by decide +kernel) ⟨_, rfl⟩ (Nat.le_of_ble_eq_true rfl) ?_
    show mM G mX10_scan 0 [some (.ref 0), some (.int k), none, none] [] S1 d (0, 0) Q
    refine m_iload_n (pc' := 1) dX10_scan_0 rfl rfl ?_
    refine m_iconst (pc' := 2) (v := 1) dX10_scan_1 (by decide) rfl ?_
    refine m_bipush (pc' := 4) (v := 20) dX10_scan_2 (by decide) rfl ?_
    refine m_callS (pc' := 7) (A := [.int k, .int 1, .int 20]) (rest := []) cl_X10_scan_81 dX10_scan_4 rfl rfl (Nat.le_of_ble_eq_true rfl) ⟨by decide, by decide⟩ rfl rfl ?_
    refine c_within ?_
    show mM G mX10_scan 7 [some (.ref 0), some (.int k), none, none] [.int (bin k 1 20)] S1 d (0, 0) Q
    rw [show (bin k 1 20) = 1 from bin_1 hb]
    refine m_if_ne (tgt := 13) (pc' := 10) dX10_scan_7 (by decide) rfl (fun h7 => ?_) (fun h7 => absurd h7 (by decide))
    refine m_aload_n (pc' := 14) dX10_scan_13 rfl rfl ?_
    refine m_getR (pc' := 17) fa_X10_scan_10 dX10_scan_14 (by decide) rfl rfl rfl rfl ?_
    refine m_getR (pc' := 20) fa_X10_scan_64 dX10_scan_17 (by decide) rfl rfl rfl rfl ?_
    refine m_getI (pc' := 23) fa_X10_scan_100 dX10_scan_20 (by decide) rfl rfl rfl ?_
    rw [show (d.1 2 3) = 0 from hC.1.1.2.2.2.trans hz]
    refine m_if_ne (tgt := 29) (pc' := 26) dX10_scan_23 (by decide) rfl (fun h23 => absurd h23 (by decide)) (fun h23 => ?_)
    refine m_ldc (pc' := 28) dX10_scan_26 kc_X10_scan_129 rfl ?_
    refine m_iret dX10_scan_28 rfl rfl ⟨by decide, by decide⟩ ?_
    exact hQ _ fr.rfl hC
  by_cases hg : 9999 < a_s A 76 + k * sls (a_s A) (nn (a_s A 43))
  · skip
    obtain ⟨n, hl⟩ := hO.l
    have e43 := hl.2.1
    have hn16 := hl.1
    obtain ⟨t0, ht0, et76⟩ := hO.t
    have hc := hO.c
    have ett : nn (a_s A 76) = t0 := by rw [et76]; exact nn_nI (by omega)
    have enn : nn (a_s A 43) = n := by rw [e43]; exact nn_nI (by omega)
    rw [show opScan A k = (eC, A) from by unfold opScan; rw [if_neg hb, if_neg hz, if_pos hg]] at hQ
    rw [enn] at hg
    refine mC_of (by decide +kernel) ⟨_, rfl⟩ (Nat.le_of_ble_eq_true rfl) ?_
    show mM G mX10_scan 0 [some (.ref 0), some (.int k), none, none] [] S1 d (0, 0) Q
    refine m_iload_n (pc' := 1) dX10_scan_0 rfl rfl ?_
    refine m_iconst (pc' := 2) (v := 1) dX10_scan_1 (by decide) rfl ?_
    refine m_bipush (pc' := 4) (v := 20) dX10_scan_2 (by decide) rfl ?_
    refine m_callS (pc' := 7) (A := [.int k, .int 1, .int 20]) (rest := []) cl_X10_scan_81 dX10_scan_4 rfl rfl (Nat.le_of_ble_eq_true rfl) ⟨by decide, by decide⟩ rfl rfl ?_
    refine c_within ?_
    show mM G mX10_scan 7 [some (.ref 0), some (.int k), none, none] [.int (bin k 1 20)] S1 d (0, 0) Q
    rw [show (bin k 1 20) = 1 from bin_1 hb]
    refine m_if_ne (tgt := 13) (pc' := 10) dX10_scan_7 (by decide) rfl (fun h7 => ?_) (fun h7 => absurd h7 (by decide))
    refine m_aload_n (pc' := 14) dX10_scan_13 rfl rfl ?_
    refine m_getR (pc' := 17) fa_X10_scan_10 dX10_scan_14 (by decide) rfl rfl rfl rfl ?_
    refine m_getR (pc' := 20) fa_X10_scan_64 dX10_scan_17 (by decide) rfl rfl rfl rfl ?_
    refine m_getI (pc' := 23) fa_X10_scan_100 dX10_scan_20 (by decide) rfl rfl rfl ?_
    rw [show (d.1 2 3) = (a_s A 43) from hC.1.1.2.2.2]
    refine m_if_ne (tgt := 29) (pc' := 26) dX10_scan_23 (by decide) rfl (fun h23 => ?_) (fun h23 => absurd h23 (hz))
    refine m_aload_n (pc' := 30) dX10_scan_29 rfl rfl ?_
    refine m_getR (pc' := 33) fa_X10_scan_10 dX10_scan_30 (by decide) rfl rfl rfl rfl ?_
    refine m_callV (pc' := 36) (A := []) (rest := []) (b := 1) cl_X10_scan_121 dX10_scan_33 rfl rfl (Nat.le_of_ble_eq_true rfl) ⟨by decide, by decide⟩ (by decide) rfl rfl rfl rfl ?_
    refine c_time hC.1 hO.1.2.2.2.2.2 ?_
    show mM G mX10_scan 36 [some (.ref 0), some (.int k), none, none] [.int (a_s A 76)] S1 d (0, 0) Q
    refine m_iload_n (pc' := 37) dX10_scan_36 rfl rfl ?_
    refine m_aload_n (pc' := 38) dX10_scan_37 rfl rfl ?_
    refine m_getR (pc' := 41) fa_X10_scan_10 dX10_scan_38 (by decide) rfl rfl rfl rfl ?_
    refine m_getR (pc' := 44) fa_X10_scan_64 dX10_scan_41 (by decide) rfl rfl rfl rfl ?_
    refine m_callV (pc' := 47) (A := []) (rest := [.int k, .int (a_s A 76)]) (b := 2) cl_X10_scan_130 dX10_scan_44 rfl rfl (Nat.le_of_ble_eq_true rfl) ⟨by decide, by decide⟩ (by decide) rfl rfl rfl rfl ?_
    refine c_slotsOfScan (s := a_s A) (by decide) hC.1.1 hl ?_
    show mM G mX10_scan 47 [some (.ref 0), some (.int k), none, none] [.int (sls (a_s A) n), .int k, .int (a_s A 76)] S1 d (0, 0) Q
    refine m_imul (pc' := 48) dX10_scan_47 rfl ?_
    refine m_iadd (pc' := 49) dX10_scan_48 rfl ?_
    refine m_sipush (pc' := 52) (v := 9999) dX10_scan_49 (by decide) rfl ?_
    refine m_icmp_le (tgt := 58) (pc' := 55) dX10_scan_52 (by decide) rfl (fun h52 => absurd h52 (Int32.not_le.mpr hg)) (fun h52 => ?_)
    refine m_ldc (pc' := 57) dX10_scan_55 kc_X10_scan_107 rfl ?_
    refine m_iret dX10_scan_57 rfl rfl ⟨by decide, by decide⟩ ?_
    exact hQ _ fr.rfl hC
  obtain ⟨n, hl⟩ := hO.l
  have e43 := hl.2.1
  have hn16 := hl.1
  obtain ⟨t0, ht0, et76⟩ := hO.t
  have hc := hO.c
  have ett : nn (a_s A 76) = t0 := by rw [et76]; exact nn_nI (by omega)
  have enn : nn (a_s A 43) = n := by rw [e43]; exact nn_nI (by omega)
  obtain ⟨k, hk1, hk20, rfl⟩ := bin_t1 (b := 20) (by decide) hb
  rw [show opScan A (nI k) = ((scR n k (a_s A, t0, a_h A)).1 93 - a_s A 93, rec A (sU (scR n k (a_s A, t0, a_h A)).1 76 (nI (scR n k (a_s A, t0, a_h A)).2.1)) (scR n k (a_s A, t0, a_h A)).2.2) from by unfold opScan; rw [if_neg hb, if_neg hz, if_neg hg, nn_nI (show k < 2 ^ 31 by omega), ett, enn]] at hQ
  rw [enn] at hg
  have hI0 : scI (a_s A) t0 (a_s A, t0, a_h A) := by
    obtain ⟨c, hc1, hc2⟩ := hO.1.2.2.1
    exact ⟨fun _ _ => rfl, Nat.le_refl _, c, hc1, hc2⟩
  refine mC_of (by decide +kernel) ⟨_, rfl⟩ (Nat.le_of_ble_eq_true rfl) ?_
  show mM G mX10_scan 0 [some (.ref 0), some (.int (nI k)), none, none] [] S1 d (0, 0) Q
  refine m_iload_n (pc' := 1) dX10_scan_0 rfl rfl ?_
  refine m_iconst (pc' := 2) (v := 1) dX10_scan_1 (by decide) rfl ?_
  refine m_bipush (pc' := 4) (v := 20) dX10_scan_2 (by decide) rfl ?_
  refine m_callS (pc' := 7) (A := [.int (nI k), .int 1, .int 20]) (rest := []) cl_X10_scan_81 dX10_scan_4 rfl rfl (Nat.le_of_ble_eq_true rfl) ⟨by decide, by decide⟩ rfl rfl ?_
  refine c_within ?_
  show mM G mX10_scan 7 [some (.ref 0), some (.int (nI k)), none, none] [.int (bin (nI k) 1 20)] S1 d (0, 0) Q
  rw [show (bin (nI k) 1 20) = 1 from bin_1 hb]
  refine m_if_ne (tgt := 13) (pc' := 10) dX10_scan_7 (by decide) rfl (fun h7 => ?_) (fun h7 => absurd h7 (by decide))
  refine m_aload_n (pc' := 14) dX10_scan_13 rfl rfl ?_
  refine m_getR (pc' := 17) fa_X10_scan_10 dX10_scan_14 (by decide) rfl rfl rfl rfl ?_
  refine m_getR (pc' := 20) fa_X10_scan_64 dX10_scan_17 (by decide) rfl rfl rfl rfl ?_
  refine m_getI (pc' := 23) fa_X10_scan_100 dX10_scan_20 (by decide) rfl rfl rfl ?_
  rw [show (d.1 2 3) = (a_s A 43) from hC.1.1.2.2.2]
  refine m_if_ne (tgt := 29) (pc' := 26) dX10_scan_23 (by decide) rfl (fun h23 => ?_) (fun h23 => absurd h23 (hz))
  refine m_aload_n (pc' := 30) dX10_scan_29 rfl rfl ?_
  refine m_getR (pc' := 33) fa_X10_scan_10 dX10_scan_30 (by decide) rfl rfl rfl rfl ?_
  refine m_callV (pc' := 36) (A := []) (rest := []) (b := 1) cl_X10_scan_121 dX10_scan_33 rfl rfl (Nat.le_of_ble_eq_true rfl) ⟨by decide, by decide⟩ (by decide) rfl rfl rfl rfl ?_
  refine c_time hC.1 hO.1.2.2.2.2.2 ?_
  show mM G mX10_scan 36 [some (.ref 0), some (.int (nI k)), none, none] [.int (a_s A 76)] S1 d (0, 0) Q
  refine m_iload_n (pc' := 37) dX10_scan_36 rfl rfl ?_
  refine m_aload_n (pc' := 38) dX10_scan_37 rfl rfl ?_
  refine m_getR (pc' := 41) fa_X10_scan_10 dX10_scan_38 (by decide) rfl rfl rfl rfl ?_
  refine m_getR (pc' := 44) fa_X10_scan_64 dX10_scan_41 (by decide) rfl rfl rfl rfl ?_
  refine m_callV (pc' := 47) (A := []) (rest := [.int (nI k), .int (a_s A 76)]) (b := 2) cl_X10_scan_130 dX10_scan_44 rfl rfl (Nat.le_of_ble_eq_true rfl) ⟨by decide, by decide⟩ (by decide) rfl rfl rfl rfl ?_
  refine c_slotsOfScan (s := a_s A) (by decide) hC.1.1 hl ?_
  show mM G mX10_scan 47 [some (.ref 0), some (.int (nI k)), none, none] [.int (sls (a_s A) n), .int (nI k), .int (a_s A 76)] S1 d (0, 0) Q
  refine m_imul (pc' := 48) dX10_scan_47 rfl ?_
  refine m_iadd (pc' := 49) dX10_scan_48 rfl ?_
  refine m_sipush (pc' := 52) (v := 9999) dX10_scan_49 (by decide) rfl ?_
  refine m_icmp_le (tgt := 58) (pc' := 55) dX10_scan_52 (by decide) rfl (fun h52 => ?_) (fun h52 => (h52 (Int32.not_lt.mp hg)).elim)
  refine m_aload_n (pc' := 59) dX10_scan_58 rfl rfl ?_
  refine m_getR (pc' := 62) fa_X10_scan_19 dX10_scan_59 (by decide) rfl rfl rfl rfl ?_
  refine m_aload_n (pc' := 63) dX10_scan_62 rfl rfl ?_
  refine m_getR (pc' := 66) fa_X10_scan_10 dX10_scan_63 (by decide) rfl rfl rfl rfl ?_
  refine m_callV (pc' := 69) (A := [.ref 1]) (rest := []) (b := 32) cl_X10_scan_60 dX10_scan_66 rfl rfl (Nat.le_of_ble_eq_true rfl) ⟨by decide, by decide⟩ (by decide) rfl rfl rfl rfl ?_
  refine c_keep hC.1 hC.2.1 hO (fun g g0 gH => ?_)
  show mM G mX10_scan 69 [some (.ref 0), some (.int (nI k)), none, none] [] S1 g (0, 0) Q
  have gC := CR_keep hC g0 gH
  have hS : SR g 2 (a_s A) := gC.1.1
  refine m_aload_n (pc' := 70) dX10_scan_69 rfl rfl ?_
  refine m_getR (pc' := 73) fa_X10_scan_10 dX10_scan_70 (by decide) rfl rfl rfl rfl ?_
  refine m_getR (pc' := 76) fa_X10_scan_133 dX10_scan_73 (by decide) rfl rfl rfl rfl ?_
  refine m_iconst (pc' := 77) (v := 5) dX10_scan_76 (by decide) rfl ?_
  refine m_iconst (pc' := 78) (v := 0) dX10_scan_77 (by decide) rfl ?_
  refine m_callV (pc' := 81) (A := [.int 5, .int 0]) (rest := []) (b := 14) cl_X10_scan_71 dX10_scan_78 rfl rfl (Nat.le_of_ble_eq_true rfl) ⟨by decide, by decide⟩ (by decide) rfl rfl rfl rfl ?_
  refine c_atN (t := 14) (W := 1) (L := 6) (a := 5) (b := 0) (k := 5) (isT_lit (by decide +kernel)) (by decide) (by decide) (by decide) ?_
  show mM G mX10_scan 81 [some (.ref 0), some (.int (nI k)), none, none] [.int (g.1 15 5)] S1 g (0, 0) Q
  rw [show (g.1 15 5) = (a_s A 93) from gC.1.2.2.2.1 5 (by decide)]
  refine m_istore_n (pc' := 82) dX10_scan_81 (by decide) rfl rfl ?_
  refine m_aload_n (pc' := 83) dX10_scan_82 rfl rfl ?_
  refine m_getR (pc' := 86) fa_X10_scan_26 dX10_scan_83 (by decide) rfl rfl rfl rfl ?_
  refine m_aload_n (pc' := 87) dX10_scan_86 rfl rfl ?_
  refine m_getR (pc' := 90) fa_X10_scan_10 dX10_scan_87 (by decide) rfl rfl rfl rfl ?_
  refine m_getF (pc' := 93) fa_X10_scan_136 dX10_scan_90 (by decide) rfl rfl rfl ?_
  rw [show (g.2 1 6) = (a_h A) from gC.1.2.2.2.2.2.2]
  refine m_aload_n (pc' := 94) dX10_scan_93 rfl rfl ?_
  refine m_getR (pc' := 97) fa_X10_scan_10 dX10_scan_94 (by decide) rfl rfl rfl rfl ?_
  refine m_callV (pc' := 100) (A := []) (rest := [.float (a_h A), .ref 189]) (b := 1) cl_X10_scan_121 dX10_scan_97 rfl rfl (Nat.le_of_ble_eq_true rfl) ⟨by decide, by decide⟩ (by decide) rfl rfl rfl rfl ?_
  refine c_time gC.1 hO.1.2.2.2.2.2 ?_
  show mM G mX10_scan 100 [some (.ref 0), some (.int (nI k)), some (.int (a_s A 93)), none] [.int (a_s A 76), .float (a_h A), .ref 189] S1 g (0, 0) Q
  refine m_callV (pc' := 103) (A := [.float (a_h A), .int (a_s A 76)]) (rest := []) (b := 189) cl_X10_scan_140 dX10_scan_100 rfl rfl (Nat.le_of_ble_eq_true rfl) ⟨by decide, by decide⟩ (by decide) rfl rfl rfl rfl ?_
  refine c_start (fun b b0 b1 b9 => ?_)
  show mM G mX10_scan 103 [some (.ref 0), some (.int (nI k)), some (.int (a_s A 93)), none] [] S1 b (0, 0) Q
  refine m_iconst (pc' := 104) (v := 0) dX10_scan_103 (by decide) rfl ?_
  refine m_istore_n (pc' := 105) dX10_scan_104 (by decide) rfl rfl ?_
  have J : ∀ (n0 : Nat) (j : Nat) (d1 : Dt) (_ : j + n0 = k) (_ : fr onE onF g d1) (_ : TR d1 1 (scR n j (a_s A, t0, a_h A)).1 (scR n j (a_s A, t0, a_h A)).2.2) (_ : d1.1 189 1 = nI (scR n j (a_s A, t0, a_h A)).2.1) (_ : d1.2 189 0 = (scR n j (a_s A, t0, a_h A)).2.2), mM G mX10_scan 105 [some (.ref 0), some (.int (nI k)), some (.int (a_s A 93)), some (.int (nI j))] [] S1 d1 (0, 0) Q := by
    intro n0
    induction n0 with
    | zero =>
      intro j d1 hk hd hT h1 h0
      refine m_iload_n (pc' := 106) dX10_scan_105 rfl rfl ?_
      refine m_iload_n (pc' := 107) dX10_scan_106 rfl rfl ?_
      refine m_icmp_ge (tgt := 120) (pc' := 110) dX10_scan_107 (by decide) rfl (fun h107 => ?_) (fun h107 => (h107 (nI_le (by omega) (by omega))).elim)
      refine m_aload_n (pc' := 121) dX10_scan_120 rfl rfl ?_
      refine m_getR (pc' := 124) fa_X10_scan_10 dX10_scan_121 (by decide) rfl rfl rfl rfl ?_
      refine m_getR (pc' := 127) fa_X10_scan_133 dX10_scan_124 (by decide) rfl rfl rfl rfl ?_
      refine m_iconst (pc' := 128) (v := 5) dX10_scan_127 (by decide) rfl ?_
      refine m_iconst (pc' := 129) (v := 0) dX10_scan_128 (by decide) rfl ?_
      refine m_callV (pc' := 132) (A := [.int 5, .int 0]) (rest := []) (b := 14) cl_X10_scan_71 dX10_scan_129 rfl rfl (Nat.le_of_ble_eq_true rfl) ⟨by decide, by decide⟩ (by decide) rfl rfl rfl rfl ?_
      refine c_atN (t := 14) (W := 1) (L := 6) (a := 5) (b := 0) (k := 5) (isT_lit (by decide +kernel)) (by decide) (by decide) (by decide) ?_
      show mM G mX10_scan 132 [some (.ref 0), some (.int (nI k)), some (.int (a_s A 93)), some (.int (nI j))] [.int (d1.1 15 5)] S1 d1 (0, 0) Q
      rw [show (d1.1 15 5) = ((scR n j (a_s A, t0, a_h A)).1 93) from hT.2.2.2.1 5 (by decide)]
      refine m_iload_n (pc' := 133) dX10_scan_132 rfl rfl ?_
      refine m_isub (pc' := 134) dX10_scan_133 rfl ?_
      refine m_iret dX10_scan_134 rfl rfl ⟨by decide, by decide⟩ ?_
      obtain rfl : j = k := by omega
      exact hQ d1 ((kp_cf g0).trans (hd.mono (by intro x y z; omega) (by intro x y z; omega))) ⟨TR_76 hT, HS_bk (A := rec A (sU (scR n j (a_s A, t0, a_h A)).1 76 (nI (scR n j (a_s A, t0, a_h A)).2.1)) (scR n j (a_s A, t0, a_h A)).2.2) gC.2.1 (fun x y z1 z2 => hd.1 x y (by omega)) (fun x y z1 z2 => hd.2 x y (by omega)), (hd.1 205 1 (by omega)).trans gC.2.2.1, fun y hy => (hd.1 206 y (by omega)).trans (gC.2.2.2 y hy)⟩
    | succ n0 ih =>
      intro j d1 hk hd hT h1 h0
      refine m_iload_n (pc' := 106) dX10_scan_105 rfl rfl ?_
      refine m_iload_n (pc' := 107) dX10_scan_106 rfl rfl ?_
      refine m_icmp_ge (tgt := 120) (pc' := 110) dX10_scan_107 (by decide) rfl (fun h107 => absurd h107 (nI_ge (by omega) (by omega))) (fun h107 => ?_)
      refine m_aload_n (pc' := 111) dX10_scan_110 rfl rfl ?_
      refine m_callV (pc' := 114) (A := []) (rest := []) (b := 0) cl_X10_scan_144 dX10_scan_111 rfl rfl (Nat.le_of_ble_eq_true rfl) ⟨by decide, by decide⟩ (by decide) rfl rfl rfl rfl ?_
      refine c_once (n := n) (b := t0 + 128 * j) (S := scR n j (a_s A, t0, a_h A)) hl hc (by omega) (scI_R hl hI0 j) hT h1 h0 (fun e e0 eT e1 e9 => ?_)
      show mM G mX10_scan 114 [some (.ref 0), some (.int (nI k)), some (.int (a_s A 93)), some (.int (nI j))] [] S1 e (0, 0) Q
      refine m_iinc (pc' := 117) dX10_scan_114 rfl (by decide) (v := nI (j + 1)) (nI_1 j) rfl rfl ?_
      refine m_goto (tgt := 105) dX10_scan_117 (by decide) ?_
      exact ih (j + 1) e (by omega) (hd.trans e0) eT e1 e9
  exact J k 0 b (by omega) (b0.mono (fun _ _ z => Or.inl z) (fun _ _ z => Or.inl z)) (TR_bk gC.1 ⟨fun x j z1 z2 => b0.1 x j (by omega), fun j => b0.2 1 j (by omega)⟩) (b1.trans et76) b9
end CLS22
