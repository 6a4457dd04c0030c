/-! THE CHECK'S OWN CALLS (4): looks at the state -/
section MOD8
variable {G : GP} {Q : Option Value → Sh → Dt → Prop} {d : Dt}
theorem OK.t {A : AS} (h : OK A) : ∃ t : Nat, t ≤ 9999 ∧ a_s A 76 = nI t := h.1.2.1
theorem OK.g {A : AS} (h : OK A) : ∃ c : Nat, c ≤ 32 ∧ a_s A 77 = nI c := h.1.2.2.1
theorem ix_ew (x w : Nat) : (44 : Int32) + 2 * nI x + nI w = nI (44 + 2 * x + w) := by rw [ix_e, nI_add]
theorem ix_lw (m w : Nat) : (94 : Int32) + 5 * nI m + nI w = nI (94 + 5 * m + w) := by rw [show (5 : Int32) = nI 5 from rfl, show (94 : Int32) = nI 94 from rfl, pk_mul, nI_add, nI_add]
theorem pk_dif {a b : Nat} (h : b ≤ a) : nI a - nI b = nI (a - b) := by rw [pk_sub h]
set_option maxHeartbeats 4000000 in
set_option maxRecDepth 100000 in
theorem p_count0 {A : AS}  (hM : MM d A)  (hQ : ∀ d', mfr d d' → MM d' A → Q (some (.int (vCount A 0))) S1 d') : mC G mX11_count [.ref 214, .int 0] S1 d Q := by
  have hs : d.1 215 = a_s A := hM.1
  rw [show vCount A 0 = a_s A 76 from by unfold vCount; rw [if_pos rfl]] at hQ
  refine mC_of (by decide +kernel) ⟨_, rfl⟩ (Nat.le_of_ble_eq_true rfl) ?_
  show mM G mX11_count 0 [some (.ref 214), some (.int 0)] [] S1 d (0, 0) Q
  refine m_aload_n (pc' := 1) dX11_count_0 rfl rfl ?_
  refine m_iconst (pc' := 2) (v := 0) dX11_count_1 (by decide) rfl ?_
  refine m_putI (pc' := 5) (ty := .int) fa_X11_count_29 dX11_count_2 (by decide +kernel) rfl rfl (by decide) rfl rfl rfl ?_
  refine m_iload_n (pc' := 6) dX11_count_5 rfl rfl ?_
  refine m_tableIn (tgt := 72) (off := 66) dX11_count_6 (by decide) (by decide) rfl (by decide) ?_
  refine m_aload_n (pc' := 73) dX11_count_72 rfl rfl ?_
  refine m_getR (pc' := 76) fa_X11_count_7 dX11_count_73 (by decide) rfl rfl rfl rfl ?_
  refine m_bipush (pc' := 78) (v := 76) dX11_count_76 (by decide) rfl ?_
  refine m_ialdN (pc' := 79) (j := 76) (L := 408) dX11_count_78 (by decide) rfl rfl (rfl) (by decide) (by decide) rfl ?_
  show mM G mX11_count 79 [some (.ref 214), some (.int 0)] [.int (d.1 215 76)] S1 (u2 d.1 214 0 0, d.2) (0, 0) Q
  rw [show (d.1 215 76) = ((a_s A) 76) from congrFun hs 76]
  refine m_iret dX11_count_79 rfl rfl ⟨by decide, by decide⟩ ?_
  exact hQ _ mfr.th hM.th
set_option maxHeartbeats 4000000 in
set_option maxRecDepth 100000 in
theorem p_count1 {A : AS}  (hM : MM d A)  (hQ : ∀ d', mfr d d' → MM d' A → Q (some (.int (vCount A 1))) S1 d') : mC G mX11_count [.ref 214, .int 1] S1 d Q := by
  have hs : d.1 215 = a_s A := hM.1
  rw [show vCount A 1 = a_s A 43 from by unfold vCount; rw [if_neg (by decide), if_pos rfl]] at hQ
  refine mC_of (by decide +kernel) ⟨_, rfl⟩ (Nat.le_of_ble_eq_true rfl) ?_
  show mM G mX11_count 0 [some (.ref 214), some (.int 1)] [] S1 d (0, 0) Q
  refine m_aload_n (pc' := 1) dX11_count_0 rfl rfl ?_
  refine m_iconst (pc' := 2) (v := 0) dX11_count_1 (by decide) rfl ?_
  refine m_putI (pc' := 5) (ty := .int) fa_X11_count_29 dX11_count_2 (by decide +kernel) rfl rfl (by decide) rfl rfl rfl ?_
  refine m_iload_n (pc' := 6) dX11_count_5 rfl rfl ?_
  refine m_tableIn (tgt := 80) (off := 74) dX11_count_6 (by decide) (by decide) rfl (by decide) ?_
  refine m_aload_n (pc' := 81) dX11_count_80 rfl rfl ?_
  refine m_getR (pc' := 84) fa_X11_count_7 dX11_count_81 (by decide) rfl rfl rfl rfl ?_
  refine m_bipush (pc' := 86) (v := 43) dX11_count_84 (by decide) rfl ?_
  refine m_ialdN (pc' := 87) (j := 43) (L := 408) dX11_count_86 (by decide) rfl rfl (rfl) (by decide) (by decide) rfl ?_
  show mM G mX11_count 87 [some (.ref 214), some (.int 1)] [.int (d.1 215 43)] S1 (u2 d.1 214 0 0, d.2) (0, 0) Q
  rw [show (d.1 215 43) = ((a_s A) 43) from congrFun hs 43]
  refine m_iret dX11_count_87 rfl rfl ⟨by decide, by decide⟩ ?_
  exact hQ _ mfr.th hM.th
set_option maxHeartbeats 4000000 in
set_option maxRecDepth 100000 in
theorem p_count2 {A : AS}  (hM : MM d A)  (hQ : ∀ d', mfr d d' → MM d' A → Q (some (.int (vCount A 2))) S1 d') : mC G mX11_count [.ref 214, .int 2] S1 d Q := by
  have hs : d.1 215 = a_s A := hM.1
  rw [show vCount A 2 = a_s A 40 from by unfold vCount; rw [if_neg (by decide), if_neg (by decide), if_pos rfl]] at hQ
  refine mC_of (by decide +kernel) ⟨_, rfl⟩ (Nat.le_of_ble_eq_true rfl) ?_
  show mM G mX11_count 0 [some (.ref 214), some (.int 2)] [] S1 d (0, 0) Q
  refine m_aload_n (pc' := 1) dX11_count_0 rfl rfl ?_
  refine m_iconst (pc' := 2) (v := 0) dX11_count_1 (by decide) rfl ?_
  refine m_putI (pc' := 5) (ty := .int) fa_X11_count_29 dX11_count_2 (by decide +kernel) rfl rfl (by decide) rfl rfl rfl ?_
  refine m_iload_n (pc' := 6) dX11_count_5 rfl rfl ?_
  refine m_tableIn (tgt := 88) (off := 82) dX11_count_6 (by decide) (by decide) rfl (by decide) ?_
  refine m_aload_n (pc' := 89) dX11_count_88 rfl rfl ?_
  refine m_getR (pc' := 92) fa_X11_count_7 dX11_count_89 (by decide) rfl rfl rfl rfl ?_
  refine m_bipush (pc' := 94) (v := 40) dX11_count_92 (by decide) rfl ?_
  refine m_iload_n (pc' := 95) dX11_count_94 rfl rfl ?_
  refine m_iadd (pc' := 96) dX11_count_95 rfl ?_
  show mM G mX11_count 96 [some (.ref 214), some (.int 2)] [.int 42, .ref 215] S1 (u2 d.1 214 0 0, d.2) (0, 0) Q
  refine m_iconst (pc' := 97) (v := 2) dX11_count_96 (by decide) rfl ?_
  refine m_isub (pc' := 98) dX11_count_97 rfl ?_
  show mM G mX11_count 98 [some (.ref 214), some (.int 2)] [.int 40, .ref 215] S1 (u2 d.1 214 0 0, d.2) (0, 0) Q
  refine m_ialdN (pc' := 99) (j := 40) (L := 408) dX11_count_98 (by decide) rfl rfl (rfl) (by decide) (by decide) rfl ?_
  show mM G mX11_count 99 [some (.ref 214), some (.int 2)] [.int (d.1 215 40)] S1 (u2 d.1 214 0 0, d.2) (0, 0) Q
  rw [show (d.1 215 40) = ((a_s A) 40) from congrFun hs 40]
  refine m_iret dX11_count_99 rfl rfl ⟨by decide, by decide⟩ ?_
  exact hQ _ mfr.th hM.th
set_option maxHeartbeats 4000000 in
set_option maxRecDepth 100000 in
theorem p_count3 {A : AS}  (hM : MM d A)  (hQ : ∀ d', mfr d d' → MM d' A → Q (some (.int (vCount A 3))) S1 d') : mC G mX11_count [.ref 214, .int 3] S1 d Q := by
  have hs : d.1 215 = a_s A := hM.1
  rw [show vCount A 3 = a_s A 41 from by unfold vCount; rw [if_neg (by decide), if_neg (by decide), if_neg (by decide), if_pos rfl]] at hQ
  refine mC_of (by decide +kernel) ⟨_, rfl⟩ (Nat.le_of_ble_eq_true rfl) ?_
  show mM G mX11_count 0 [some (.ref 214), some (.int 3)] [] S1 d (0, 0) Q
  refine m_aload_n (pc' := 1) dX11_count_0 rfl rfl ?_
  refine m_iconst (pc' := 2) (v := 0) dX11_count_1 (by decide) rfl ?_
  refine m_putI (pc' := 5) (ty := .int) fa_X11_count_29 dX11_count_2 (by decide +kernel) rfl rfl (by decide) rfl rfl rfl ?_
  refine m_iload_n (pc' := 6) dX11_count_5 rfl rfl ?_
  refine m_tableIn (tgt := 88) (off := 82) dX11_count_6 (by decide) (by decide) rfl (by decide) ?_
  refine m_aload_n (pc' := 89) dX11_count_88 rfl rfl ?_
  refine m_getR (pc' := 92) fa_X11_count_7 dX11_count_89 (by decide) rfl rfl rfl rfl ?_
  refine m_bipush (pc' := 94) (v := 40) dX11_count_92 (by decide) rfl ?_
  refine m_iload_n (pc' := 95) dX11_count_94 rfl rfl ?_
  refine m_iadd (pc' := 96) dX11_count_95 rfl ?_
  show mM G mX11_count 96 [some (.ref 214), some (.int 3)] [.int 43, .ref 215] S1 (u2 d.1 214 0 0, d.2) (0, 0) Q
  refine m_iconst (pc' := 97) (v := 2) dX11_count_96 (by decide) rfl ?_
  refine m_isub (pc' := 98) dX11_count_97 rfl ?_
  show mM G mX11_count 98 [some (.ref 214), some (.int 3)] [.int 41, .ref 215] S1 (u2 d.1 214 0 0, d.2) (0, 0) Q
  refine m_ialdN (pc' := 99) (j := 41) (L := 408) dX11_count_98 (by decide) rfl rfl (rfl) (by decide) (by decide) rfl ?_
  show mM G mX11_count 99 [some (.ref 214), some (.int 3)] [.int (d.1 215 41)] S1 (u2 d.1 214 0 0, d.2) (0, 0) Q
  rw [show (d.1 215 41) = ((a_s A) 41) from congrFun hs 41]
  refine m_iret dX11_count_99 rfl rfl ⟨by decide, by decide⟩ ?_
  exact hQ _ mfr.th hM.th
set_option maxHeartbeats 4000000 in
set_option maxRecDepth 100000 in
theorem p_count4 {A : AS}  (hM : MM d A)  (hQ : ∀ d', mfr d d' → MM d' A → Q (some (.int (vCount A 4))) S1 d') : mC G mX11_count [.ref 214, .int 4] S1 d Q := by
  have hs : d.1 215 = a_s A := hM.1
  rw [show vCount A 4 = a_s A 42 from by unfold vCount; rw [if_neg (by decide), if_neg (by decide), if_neg (by decide), if_neg (by decide), if_pos rfl]] at hQ
  refine mC_of (by decide +kernel) ⟨_, rfl⟩ (Nat.le_of_ble_eq_true rfl) ?_
  show mM G mX11_count 0 [some (.ref 214), some (.int 4)] [] S1 d (0, 0) Q
  refine m_aload_n (pc' := 1) dX11_count_0 rfl rfl ?_
  refine m_iconst (pc' := 2) (v := 0) dX11_count_1 (by decide) rfl ?_
  refine m_putI (pc' := 5) (ty := .int) fa_X11_count_29 dX11_count_2 (by decide +kernel) rfl rfl (by decide) rfl rfl rfl ?_
  refine m_iload_n (pc' := 6) dX11_count_5 rfl rfl ?_
  refine m_tableIn (tgt := 88) (off := 82) dX11_count_6 (by decide) (by decide) rfl (by decide) ?_
  refine m_aload_n (pc' := 89) dX11_count_88 rfl rfl ?_
  refine m_getR (pc' := 92) fa_X11_count_7 dX11_count_89 (by decide) rfl rfl rfl rfl ?_
  refine m_bipush (pc' := 94) (v := 40) dX11_count_92 (by decide) rfl ?_
  refine m_iload_n (pc' := 95) dX11_count_94 rfl rfl ?_
  refine m_iadd (pc' := 96) dX11_count_95 rfl ?_
  show mM G mX11_count 96 [some (.ref 214), some (.int 4)] [.int 44, .ref 215] S1 (u2 d.1 214 0 0, d.2) (0, 0) Q
  refine m_iconst (pc' := 97) (v := 2) dX11_count_96 (by decide) rfl ?_
  refine m_isub (pc' := 98) dX11_count_97 rfl ?_
  show mM G mX11_count 98 [some (.ref 214), some (.int 4)] [.int 42, .ref 215] S1 (u2 d.1 214 0 0, d.2) (0, 0) Q
  refine m_ialdN (pc' := 99) (j := 42) (L := 408) dX11_count_98 (by decide) rfl rfl (rfl) (by decide) (by decide) rfl ?_
  show mM G mX11_count 99 [some (.ref 214), some (.int 4)] [.int (d.1 215 42)] S1 (u2 d.1 214 0 0, d.2) (0, 0) Q
  rw [show (d.1 215 42) = ((a_s A) 42) from congrFun hs 42]
  refine m_iret dX11_count_99 rfl rfl ⟨by decide, by decide⟩ ?_
  exact hQ _ mfr.th hM.th
set_option maxHeartbeats 4000000 in
set_option maxRecDepth 100000 in
theorem p_count5 {A : AS}  (hM : MM d A)  (hQ : ∀ d', mfr d d' → MM d' A → Q (some (.int (vCount A 5))) S1 d') : mC G mX11_count [.ref 214, .int 5] S1 d Q := by
  have hs : d.1 215 = a_s A := hM.1
  rw [show vCount A 5 = a_s A 77 from by unfold vCount; rw [if_neg (by decide), if_neg (by decide), if_neg (by decide), if_neg (by decide), if_neg (by decide), if_pos rfl]] at hQ
  refine mC_of (by decide +kernel) ⟨_, rfl⟩ (Nat.le_of_ble_eq_true rfl) ?_
  show mM G mX11_count 0 [some (.ref 214), some (.int 5)] [] S1 d (0, 0) Q
  refine m_aload_n (pc' := 1) dX11_count_0 rfl rfl ?_
  refine m_iconst (pc' := 2) (v := 0) dX11_count_1 (by decide) rfl ?_
  refine m_putI (pc' := 5) (ty := .int) fa_X11_count_29 dX11_count_2 (by decide +kernel) rfl rfl (by decide) rfl rfl rfl ?_
  refine m_iload_n (pc' := 6) dX11_count_5 rfl rfl ?_
  refine m_tableIn (tgt := 100) (off := 94) dX11_count_6 (by decide) (by decide) rfl (by decide) ?_
  refine m_aload_n (pc' := 101) dX11_count_100 rfl rfl ?_
  refine m_getR (pc' := 104) fa_X11_count_7 dX11_count_101 (by decide) rfl rfl rfl rfl ?_
  refine m_bipush (pc' := 106) (v := 77) dX11_count_104 (by decide) rfl ?_
  refine m_ialdN (pc' := 107) (j := 77) (L := 408) dX11_count_106 (by decide) rfl rfl (rfl) (by decide) (by decide) rfl ?_
  show mM G mX11_count 107 [some (.ref 214), some (.int 5)] [.int (d.1 215 77)] S1 (u2 d.1 214 0 0, d.2) (0, 0) Q
  rw [show (d.1 215 77) = ((a_s A) 77) from congrFun hs 77]
  refine m_iret dX11_count_107 rfl rfl ⟨by decide, by decide⟩ ?_
  exact hQ _ mfr.th hM.th
set_option maxHeartbeats 4000000 in
set_option maxRecDepth 100000 in
theorem p_count6 {A : AS}  (hM : MM d A)  (hQ : ∀ d', mfr d d' → MM d' A → Q (some (.int (vCount A 6))) S1 d') : mC G mX11_count [.ref 214, .int 6] S1 d Q := by
  have hs : d.1 215 = a_s A := hM.1
  rw [show vCount A 6 = a_s A 254 + a_s A 331 from by unfold vCount; rw [if_neg (by decide), if_neg (by decide), if_neg (by decide), if_neg (by decide), if_neg (by decide), if_neg (by decide), if_pos rfl]] at hQ
  refine mC_of (by decide +kernel) ⟨_, rfl⟩ (Nat.le_of_ble_eq_true rfl) ?_
  show mM G mX11_count 0 [some (.ref 214), some (.int 6)] [] S1 d (0, 0) Q
  refine m_aload_n (pc' := 1) dX11_count_0 rfl rfl ?_
  refine m_iconst (pc' := 2) (v := 0) dX11_count_1 (by decide) rfl ?_
  refine m_putI (pc' := 5) (ty := .int) fa_X11_count_29 dX11_count_2 (by decide +kernel) rfl rfl (by decide) rfl rfl rfl ?_
  refine m_iload_n (pc' := 6) dX11_count_5 rfl rfl ?_
  refine m_tableIn (tgt := 108) (off := 102) dX11_count_6 (by decide) (by decide) rfl (by decide) ?_
  refine m_aload_n (pc' := 109) dX11_count_108 rfl rfl ?_
  refine m_getR (pc' := 112) fa_X11_count_7 dX11_count_109 (by decide) rfl rfl rfl rfl ?_
  refine m_sipush (pc' := 115) (v := 254) dX11_count_112 (by decide) rfl ?_
  refine m_ialdN (pc' := 116) (j := 254) (L := 408) dX11_count_115 (by decide) rfl rfl (rfl) (by decide) (by decide) rfl ?_
  show mM G mX11_count 116 [some (.ref 214), some (.int 6)] [.int (d.1 215 254)] S1 (u2 d.1 214 0 0, d.2) (0, 0) Q
  rw [show (d.1 215 254) = ((a_s A) 254) from congrFun hs 254]
  refine m_aload_n (pc' := 117) dX11_count_116 rfl rfl ?_
  refine m_getR (pc' := 120) fa_X11_count_7 dX11_count_117 (by decide) rfl rfl rfl rfl ?_
  refine m_sipush (pc' := 123) (v := 331) dX11_count_120 (by decide) rfl ?_
  refine m_ialdN (pc' := 124) (j := 331) (L := 408) dX11_count_123 (by decide) rfl rfl (rfl) (by decide) (by decide) rfl ?_
  show mM G mX11_count 124 [some (.ref 214), some (.int 6)] [.int (d.1 215 331), .int ((a_s A) 254)] S1 (u2 d.1 214 0 0, d.2) (0, 0) Q
  rw [show (d.1 215 331) = ((a_s A) 331) from congrFun hs 331]
  refine m_iadd (pc' := 125) dX11_count_124 rfl ?_
  refine m_iret dX11_count_125 rfl rfl ⟨by decide, by decide⟩ ?_
  exact hQ _ mfr.th hM.th
set_option maxHeartbeats 4000000 in
set_option maxRecDepth 100000 in
theorem p_count7 {A : AS}  (hM : MM d A) (hO : OK A) (hQ : ∀ d', mfr d d' → MM d' A → Q (some (.int (vCount A 7))) S1 d') : mC G mX11_count [.ref 214, .int 7] S1 d Q := by
  have hs : d.1 215 = a_s A := hM.1
  obtain ⟨n, hl⟩ := hO.l
  have e43 := hl.2.1
  have hn16 := hl.1
  have enn : nn (a_s A 43) = n := by rw [e43]; exact nn_nI (by omega)
  rw [show vCount A 7 = sls (a_s A) n from by unfold vCount; rw [if_neg (by decide), if_neg (by decide), if_neg (by decide), if_neg (by decide), if_neg (by decide), if_neg (by decide), if_neg (by decide), if_pos rfl, enn]] at hQ
  refine mC_of (by decide +kernel) ⟨_, rfl⟩ (Nat.le_of_ble_eq_true rfl) ?_
  show mM G mX11_count 0 [some (.ref 214), some (.int 7)] [] S1 d (0, 0) Q
  refine m_aload_n (pc' := 1) dX11_count_0 rfl rfl ?_
  refine m_iconst (pc' := 2) (v := 0) dX11_count_1 (by decide) rfl ?_
  refine m_putI (pc' := 5) (ty := .int) fa_X11_count_29 dX11_count_2 (by decide +kernel) rfl rfl (by decide) rfl rfl rfl ?_
  refine m_iload_n (pc' := 6) dX11_count_5 rfl rfl ?_
  refine m_tableIn (tgt := 126) (off := 120) dX11_count_6 (by decide) (by decide) rfl (by decide) ?_
  refine m_aload_n (pc' := 127) dX11_count_126 rfl rfl ?_
  refine m_callV (pc' := 130) (A := []) (rest := []) (b := 214) cl_X11_count_140 dX11_count_127 rfl rfl (Nat.le_of_ble_eq_true rfl) ⟨by decide, by decide⟩ (by decide) rfl rfl rfl rfl ?_
  refine c_mslots (s := a_s A) hs hl ?_
  show mM G mX11_count 130 [some (.ref 214), some (.int 7)] [.int (sls (a_s A) n)] S1 (u2 d.1 214 0 0, d.2) (0, 0) Q
  refine m_iret dX11_count_130 rfl rfl ⟨by decide, by decide⟩ ?_
  exact hQ _ mfr.th hM.th
set_option maxHeartbeats 4000000 in
set_option maxRecDepth 100000 in
theorem p_count8 {A : AS}  (hM : MM d A)  (hQ : ∀ d', mfr d d' → MM d' A → Q (some (.int (vCount A 8))) S1 d') : mC G mX11_count [.ref 214, .int 8] S1 d Q := by
  have hs : d.1 215 = a_s A := hM.1
  rw [show vCount A 8 = nI (a_m A) from by unfold vCount; rw [if_neg (by decide), if_neg (by decide), if_neg (by decide), if_neg (by decide), if_neg (by decide), if_neg (by decide), if_neg (by decide), if_neg (by decide), if_pos rfl]] at hQ
  refine mC_of (by decide +kernel) ⟨_, rfl⟩ (Nat.le_of_ble_eq_true rfl) ?_
  show mM G mX11_count 0 [some (.ref 214), some (.int 8)] [] S1 d (0, 0) Q
  refine m_aload_n (pc' := 1) dX11_count_0 rfl rfl ?_
  refine m_iconst (pc' := 2) (v := 0) dX11_count_1 (by decide) rfl ?_
  refine m_putI (pc' := 5) (ty := .int) fa_X11_count_29 dX11_count_2 (by decide +kernel) rfl rfl (by decide) rfl rfl rfl ?_
  refine m_iload_n (pc' := 6) dX11_count_5 rfl rfl ?_
  refine m_tableIn (tgt := 131) (off := 125) dX11_count_6 (by decide) (by decide) rfl (by decide) ?_
  refine m_aload_n (pc' := 132) dX11_count_131 rfl rfl ?_
  refine m_getI (pc' := 135) fa_X11_count_33 dX11_count_132 (by decide) rfl rfl rfl ?_
  show mM G mX11_count 135 [some (.ref 214), some (.int 8)] [.int (d.1 214 5)] S1 (u2 d.1 214 0 0, d.2) (0, 0) Q
  rw [show (d.1 214 5) = (nI (a_m A)) from hM.2.2.1]
  refine m_iret dX11_count_135 rfl rfl ⟨by decide, by decide⟩ ?_
  exact hQ _ mfr.th hM.th
set_option maxHeartbeats 4000000 in
set_option maxRecDepth 100000 in
theorem p_count9 {A : AS}  (hM : MM d A)  (hQ : ∀ d', mfr d d' → MM d' A → Q (some (.int (vCount A 9))) S1 d') : mC G mX11_count [.ref 214, .int 9] S1 d Q := by
  have hs : d.1 215 = a_s A := hM.1
  rw [show vCount A 9 = nI (a_n A) from by unfold vCount; rw [if_neg (by decide), if_neg (by decide), if_neg (by decide), if_neg (by decide), if_neg (by decide), if_neg (by decide), if_neg (by decide), if_neg (by decide), if_neg (by decide), if_pos rfl]] at hQ
  refine mC_of (by decide +kernel) ⟨_, rfl⟩ (Nat.le_of_ble_eq_true rfl) ?_
  show mM G mX11_count 0 [some (.ref 214), some (.int 9)] [] S1 d (0, 0) Q
  refine m_aload_n (pc' := 1) dX11_count_0 rfl rfl ?_
  refine m_iconst (pc' := 2) (v := 0) dX11_count_1 (by decide) rfl ?_
  refine m_putI (pc' := 5) (ty := .int) fa_X11_count_29 dX11_count_2 (by decide +kernel) rfl rfl (by decide) rfl rfl rfl ?_
  refine m_iload_n (pc' := 6) dX11_count_5 rfl rfl ?_
  refine m_tableIn (tgt := 136) (off := 130) dX11_count_6 (by decide) (by decide) rfl (by decide) ?_
  refine m_aload_n (pc' := 137) dX11_count_136 rfl rfl ?_
  refine m_getI (pc' := 140) fa_X11_count_147 dX11_count_137 (by decide) rfl rfl rfl ?_
  show mM G mX11_count 140 [some (.ref 214), some (.int 9)] [.int (d.1 214 8)] S1 (u2 d.1 214 0 0, d.2) (0, 0) Q
  rw [show (d.1 214 8) = (nI (a_n A)) from hM.2.2.2.2.2.2.2]
  refine m_iret dX11_count_140 rfl rfl ⟨by decide, by decide⟩ ?_
  exact hQ _ mfr.th hM.th
set_option maxHeartbeats 4000000 in
set_option maxRecDepth 100000 in
theorem p_count10 {A : AS}  (hM : MM d A)  (hQ : ∀ d', mfr d d' → MM d' A → Q (some (.int (vCount A 10))) S1 d') : mC G mX11_count [.ref 214, .int 10] S1 d Q := by
  have hs : d.1 215 = a_s A := hM.1
  rw [show vCount A 10 = cks (a_s A) 0 8 from by unfold vCount; rw [if_neg (by decide), if_neg (by decide), if_neg (by decide), if_neg (by decide), if_neg (by decide), if_neg (by decide), if_neg (by decide), if_neg (by decide), if_neg (by decide), if_neg (by decide), if_pos rfl]] at hQ
  refine mC_of (by decide +kernel) ⟨_, rfl⟩ (Nat.le_of_ble_eq_true rfl) ?_
  show mM G mX11_count 0 [some (.ref 214), some (.int 10)] [] S1 d (0, 0) Q
  refine m_aload_n (pc' := 1) dX11_count_0 rfl rfl ?_
  refine m_iconst (pc' := 2) (v := 0) dX11_count_1 (by decide) rfl ?_
  refine m_putI (pc' := 5) (ty := .int) fa_X11_count_29 dX11_count_2 (by decide +kernel) rfl rfl (by decide) rfl rfl rfl ?_
  refine m_iload_n (pc' := 6) dX11_count_5 rfl rfl ?_
  refine m_tableIn (tgt := 141) (off := 135) dX11_count_6 (by decide) (by decide) rfl (by decide) ?_
  refine m_aload_n (pc' := 142) dX11_count_141 rfl rfl ?_
  refine m_iload_n (pc' := 143) dX11_count_142 rfl rfl ?_
  refine m_bipush (pc' := 145) (v := 10) dX11_count_143 (by decide) rfl ?_
  refine m_isub (pc' := 146) dX11_count_145 rfl ?_
  show mM G mX11_count 146 [some (.ref 214), some (.int 10)] [.int 0, .ref 214] S1 (u2 d.1 214 0 0, d.2) (0, 0) Q
  refine m_callV (pc' := 149) (A := [.int 0]) (rest := []) (b := 214) cl_X11_count_193 dX11_count_146 rfl rfl (Nat.le_of_ble_eq_true rfl) ⟨by decide, by decide⟩ (by decide) rfl rfl rfl rfl ?_
  refine c_mkinds (s := a_s A) hs ?_
  show mM G mX11_count 149 [some (.ref 214), some (.int 10)] [.int (cks (a_s A) 0 8)] S1 (u2 d.1 214 0 0, d.2) (0, 0) Q
  refine m_iret dX11_count_149 rfl rfl ⟨by decide, by decide⟩ ?_
  exact hQ _ mfr.th hM.th
set_option maxHeartbeats 4000000 in
set_option maxRecDepth 100000 in
theorem p_count11 {A : AS}  (hM : MM d A)  (hQ : ∀ d', mfr d d' → MM d' A → Q (some (.int (vCount A 11))) S1 d') : mC G mX11_count [.ref 214, .int 11] S1 d Q := by
  have hs : d.1 215 = a_s A := hM.1
  rw [show vCount A 11 = cks (a_s A) 1 8 from by unfold vCount; rw [if_neg (by decide), if_neg (by decide), if_neg (by decide), if_neg (by decide), if_neg (by decide), if_neg (by decide), if_neg (by decide), if_neg (by decide), if_neg (by decide), if_neg (by decide), if_neg (by decide), if_pos rfl]] at hQ
  refine mC_of (by decide +kernel) ⟨_, rfl⟩ (Nat.le_of_ble_eq_true rfl) ?_
  show mM G mX11_count 0 [some (.ref 214), some (.int 11)] [] S1 d (0, 0) Q
  refine m_aload_n (pc' := 1) dX11_count_0 rfl rfl ?_
  refine m_iconst (pc' := 2) (v := 0) dX11_count_1 (by decide) rfl ?_
  refine m_putI (pc' := 5) (ty := .int) fa_X11_count_29 dX11_count_2 (by decide +kernel) rfl rfl (by decide) rfl rfl rfl ?_
  refine m_iload_n (pc' := 6) dX11_count_5 rfl rfl ?_
  refine m_tableIn (tgt := 141) (off := 135) dX11_count_6 (by decide) (by decide) rfl (by decide) ?_
  refine m_aload_n (pc' := 142) dX11_count_141 rfl rfl ?_
  refine m_iload_n (pc' := 143) dX11_count_142 rfl rfl ?_
  refine m_bipush (pc' := 145) (v := 10) dX11_count_143 (by decide) rfl ?_
  refine m_isub (pc' := 146) dX11_count_145 rfl ?_
  show mM G mX11_count 146 [some (.ref 214), some (.int 11)] [.int 1, .ref 214] S1 (u2 d.1 214 0 0, d.2) (0, 0) Q
  refine m_callV (pc' := 149) (A := [.int 1]) (rest := []) (b := 214) cl_X11_count_193 dX11_count_146 rfl rfl (Nat.le_of_ble_eq_true rfl) ⟨by decide, by decide⟩ (by decide) rfl rfl rfl rfl ?_
  refine c_mkinds (s := a_s A) hs ?_
  show mM G mX11_count 149 [some (.ref 214), some (.int 11)] [.int (cks (a_s A) 1 8)] S1 (u2 d.1 214 0 0, d.2) (0, 0) Q
  refine m_iret dX11_count_149 rfl rfl ⟨by decide, by decide⟩ ?_
  exact hQ _ mfr.th hM.th
set_option maxHeartbeats 4000000 in
set_option maxRecDepth 100000 in
theorem p_count12 {A : AS}  (hM : MM d A)  (hQ : ∀ d', mfr d d' → MM d' A → Q (some (.int (vCount A 12))) S1 d') : mC G mX11_count [.ref 214, .int 12] S1 d Q := by
  have hs : d.1 215 = a_s A := hM.1
  rw [show vCount A 12 = cks (a_s A) 2 8 from by unfold vCount; rw [if_neg (by decide), if_neg (by decide), if_neg (by decide), if_neg (by decide), if_neg (by decide), if_neg (by decide), if_neg (by decide), if_neg (by decide), if_neg (by decide), if_neg (by decide), if_neg (by decide), if_neg (by decide), if_pos rfl]] at hQ
  refine mC_of (by decide +kernel) ⟨_, rfl⟩ (Nat.le_of_ble_eq_true rfl) ?_
  show mM G mX11_count 0 [some (.ref 214), some (.int 12)] [] S1 d (0, 0) Q
  refine m_aload_n (pc' := 1) dX11_count_0 rfl rfl ?_
  refine m_iconst (pc' := 2) (v := 0) dX11_count_1 (by decide) rfl ?_
  refine m_putI (pc' := 5) (ty := .int) fa_X11_count_29 dX11_count_2 (by decide +kernel) rfl rfl (by decide) rfl rfl rfl ?_
  refine m_iload_n (pc' := 6) dX11_count_5 rfl rfl ?_
  refine m_tableIn (tgt := 141) (off := 135) dX11_count_6 (by decide) (by decide) rfl (by decide) ?_
  refine m_aload_n (pc' := 142) dX11_count_141 rfl rfl ?_
  refine m_iload_n (pc' := 143) dX11_count_142 rfl rfl ?_
  refine m_bipush (pc' := 145) (v := 10) dX11_count_143 (by decide) rfl ?_
  refine m_isub (pc' := 146) dX11_count_145 rfl ?_
  show mM G mX11_count 146 [some (.ref 214), some (.int 12)] [.int 2, .ref 214] S1 (u2 d.1 214 0 0, d.2) (0, 0) Q
  refine m_callV (pc' := 149) (A := [.int 2]) (rest := []) (b := 214) cl_X11_count_193 dX11_count_146 rfl rfl (Nat.le_of_ble_eq_true rfl) ⟨by decide, by decide⟩ (by decide) rfl rfl rfl rfl ?_
  refine c_mkinds (s := a_s A) hs ?_
  show mM G mX11_count 149 [some (.ref 214), some (.int 12)] [.int (cks (a_s A) 2 8)] S1 (u2 d.1 214 0 0, d.2) (0, 0) Q
  refine m_iret dX11_count_149 rfl rfl ⟨by decide, by decide⟩ ?_
  exact hQ _ mfr.th hM.th
set_option maxHeartbeats 4000000 in
set_option maxRecDepth 100000 in
theorem p_countX {A : AS} {w : Int32} (hM : MM d A) (w0 : ¬ w = 0) (w1 : ¬ w = 1) (w2 : ¬ w = 2) (w3 : ¬ w = 3) (w4 : ¬ w = 4) (w5 : ¬ w = 5) (w6 : ¬ w = 6) (w7 : ¬ w = 7) (w8 : ¬ w = 8) (w9 : ¬ w = 9) (w10 : ¬ w = 10) (w11 : ¬ w = 11) (w12 : ¬ w = 12) (hQ : ∀ d', mfr d d' → MM d' A → Q (some (.int (vCount A w))) S1 d') : mC G mX11_count [.ref 214, .int w] S1 d Q := by
  rw [show vCount A w = eI from by unfold vCount; rw [if_neg w0, if_neg w1, if_neg w2, if_neg w3, if_neg w4, if_neg w5, if_neg w6, if_neg w7, if_neg w8, if_neg w9, if_neg w10, if_neg w11, if_neg w12]] at hQ
  refine mC_of (by decide +kernel) ⟨_, rfl⟩ (Nat.le_of_ble_eq_true rfl) ?_
  show mM G mX11_count 0 [some (.ref 214), some (.int w)] [] S1 d (0, 0) Q
  refine m_aload_n (pc' := 1) dX11_count_0 rfl rfl ?_
  refine m_iconst (pc' := 2) (v := 0) dX11_count_1 (by decide) rfl ?_
  refine m_putI (pc' := 5) (ty := .int) fa_X11_count_29 dX11_count_2 (by decide +kernel) rfl rfl (by decide) rfl rfl rfl ?_
  refine m_iload_n (pc' := 6) dX11_count_5 rfl rfl ?_
  refine m_tableOut (tgt := 150) dX11_count_6 (by have z0 := tI_ne w0; have y0 : ((0 : Int32)).toInt = 0 := (by decide); have z1 := tI_ne w1; have y1 : ((1 : Int32)).toInt = 1 := (by decide); have z2 := tI_ne w2; have y2 : ((2 : Int32)).toInt = 2 := (by decide); have z3 := tI_ne w3; have y3 : ((3 : Int32)).toInt = 3 := (by decide); have z4 := tI_ne w4; have y4 : ((4 : Int32)).toInt = 4 := (by decide); have z5 := tI_ne w5; have y5 : ((5 : Int32)).toInt = 5 := (by decide); have z6 := tI_ne w6; have y6 : ((6 : Int32)).toInt = 6 := (by decide); have z7 := tI_ne w7; have y7 : ((7 : Int32)).toInt = 7 := (by decide); have z8 := tI_ne w8; have y8 : ((8 : Int32)).toInt = 8 := (by decide); have z9 := tI_ne w9; have y9 : ((9 : Int32)).toInt = 9 := (by decide); have z10 := tI_ne w10; have y10 : ((10 : Int32)).toInt = 10 := (by decide); have z11 := tI_ne w11; have y11 : ((11 : Int32)).toInt = 11 := (by decide); have z12 := tI_ne w12; have y12 : ((12 : Int32)).toInt = 12 := (by decide); omega) (by decide) ?_
  refine m_ldc (pc' := 152) dX11_count_150 kc_X11_count_111 rfl ?_
  refine m_iret dX11_count_152 rfl rfl ⟨by decide, by decide⟩ ?_
  exact hQ _ mfr.th hM.th
theorem p_count {A : AS} {w : Int32} (hM : MM d A) (hO : OK A) (hQ : ∀ d', mfr d d' → MM d' A → Q (some (.int (vCount A w))) S1 d') : mC G mX11_count [.ref 214, .int w] S1 d Q := by
  by_cases w0 : w = 0
  · subst w0; exact p_count0 hM hQ
  by_cases w1 : w = 1
  · subst w1; exact p_count1 hM hQ
  by_cases w2 : w = 2
  · subst w2; exact p_count2 hM hQ
  by_cases w3 : w = 3
  · subst w3; exact p_count3 hM hQ
  by_cases w4 : w = 4
  · subst w4; exact p_count4 hM hQ
  by_cases w5 : w = 5
  · subst w5; exact p_count5 hM hQ
  by_cases w6 : w = 6
  · subst w6; exact p_count6 hM hQ
  by_cases w7 : w = 7
  · subst w7; exact p_count7 hM hO hQ
  by_cases w8 : w = 8
  · subst w8; exact p_count8 hM hQ
  by_cases w9 : w = 9
  · subst w9; exact p_count9 hM hQ
  by_cases w10 : w = 10
  · subst w10; exact p_count10 hM hQ
  by_cases w11 : w = 11
  · subst w11; exact p_count11 hM hQ
  by_cases w12 : w = 12
  · subst w12; exact p_count12 hM hQ
  exact p_countX hM w0 w1 w2 w3 w4 w5 w6 w7 w8 w9 w10 w11 w12 hQ
theorem bin_nI {a b : Nat} (h : a ≤ b) (hb : b < 2 ^ 31 := by decide) : bin (nI a) 0 (nI b) = 1 := by
  unfold bin; rw [if_pos ⟨nI_le (a := 0) (Nat.zero_le a) (by omega), nI_le h hb⟩]
set_option maxHeartbeats 4000000 in
set_option maxRecDepth 100000 in
theorem p_chan5 {A : AS} {c : Nat} (hM : MM d A) (hc7 : c ≤ 7)  (hQ : ∀ d', mfr d d' → MM d' A → Q (some (.int (vChannel A (nI c) 5))) S1 d') : mC G mX11_channel [.ref 214, .int (nI c), .int 5] S1 d Q := by
  have hs : d.1 215 = a_s A := hM.1
  have h1 : bin (nI c) 0 7 = 1 := bin_nI (b := 7) (by omega)
  rw [show vChannel A (nI c) 5 = if a_s A (78 + c) = -1 then eN else a_s A (78 + c) from by unfold vChannel; rw [if_neg (not_or.mpr ⟨by rw [h1]; decide, by decide⟩), if_pos rfl, nn_nI (by omega)]] at hQ
  refine mC_of (by decide +kernel) ⟨_, rfl⟩ (Nat.le_of_ble_eq_true rfl) ?_
  show mM G mX11_channel 0 [some (.ref 214), some (.int (nI c)), some (.int 5)] [] S1 d (0, 0) Q
  refine m_aload_n (pc' := 1) dX11_channel_0 rfl rfl ?_
  refine m_iconst (pc' := 2) (v := 0) dX11_channel_1 (by decide) rfl ?_
  refine m_putI (pc' := 5) (ty := .int) fa_X11_channel_29 dX11_channel_2 (by decide +kernel) rfl rfl (by decide) rfl rfl rfl ?_
  refine m_iload_n (pc' := 6) dX11_channel_5 rfl rfl ?_
  refine m_callS (pc' := 9) (A := [.int (nI c)]) (rest := []) cl_X11_channel_103 dX11_channel_6 rfl rfl (Nat.le_of_ble_eq_true rfl) ⟨by decide, by decide⟩ rfl rfl ?_
  refine c_mch ?_
  show mM G mX11_channel 9 [some (.ref 214), some (.int (nI c)), some (.int 5)] [.int (bin (nI c) 0 7)] S1 (u2 d.1 214 0 0, d.2) (0, 0) Q
  rw [show (bin (nI c) 0 7) = 1 from h1]
  refine m_if_eq (tgt := 22) (pc' := 12) dX11_channel_9 (by decide) rfl (fun h9 => absurd h9 (by decide)) (fun h9 => ?_)
  refine m_iload_n (pc' := 13) dX11_channel_12 rfl rfl ?_
  refine m_iconst (pc' := 14) (v := 0) dX11_channel_13 (by decide) rfl ?_
  refine m_bipush (pc' := 16) (v := 7) dX11_channel_14 (by decide) rfl ?_
  refine m_callS (pc' := 19) (A := [.int 5, .int 0, .int 7]) (rest := []) cl_X11_channel_40 dX11_channel_16 rfl rfl (Nat.le_of_ble_eq_true rfl) ⟨by decide, by decide⟩ rfl rfl ?_
  refine c_in ?_
  show mM G mX11_channel 19 [some (.ref 214), some (.int (nI c)), some (.int 5)] [.int (bin 5 0 7)] S1 (u2 d.1 214 0 0, d.2) (0, 0) Q
  rw [show (bin 5 0 7) = 1 from rfl]
  refine m_if_ne (tgt := 25) (pc' := 22) dX11_channel_19 (by decide) rfl (fun h19 => ?_) (fun h19 => absurd h19 (by decide))
  refine m_iload_n (pc' := 26) dX11_channel_25 rfl rfl ?_
  refine m_tableIn (tgt := 52) (off := 26) dX11_channel_26 (by decide) (by decide) rfl (by decide) ?_
  refine m_aload_n (pc' := 53) dX11_channel_52 rfl rfl ?_
  refine m_getR (pc' := 56) fa_X11_channel_7 dX11_channel_53 (by decide) rfl rfl rfl rfl ?_
  refine m_bipush (pc' := 58) (v := 78) dX11_channel_56 (by decide) rfl ?_
  refine m_iload_n (pc' := 59) dX11_channel_58 rfl rfl ?_
  refine m_iadd (pc' := 60) dX11_channel_59 rfl ?_
  refine m_ialdN (pc' := 61) (j := 78 + c) (L := 408) dX11_channel_60 (by decide) rfl rfl (nI_add 78 c) (by omega) (by decide) rfl ?_
  show mM G mX11_channel 61 [some (.ref 214), some (.int (nI c)), some (.int 5)] [.int (d.1 215 (78 + c))] S1 (u2 d.1 214 0 0, d.2) (0, 0) Q
  rw [show (d.1 215 (78 + c)) = ((a_s A) (78 + c)) from congrFun hs (78 + c)]
  refine m_iconst (pc' := 62) (v := (-1)) dX11_channel_61 (by decide) rfl ?_
  refine m_icmp_ne (tgt := 70) (pc' := 65) dX11_channel_62 (by decide) rfl (fun h62 => ?_) (fun h62 => ?_)
  · skip
    refine m_aload_n (pc' := 71) dX11_channel_70 rfl rfl ?_
    refine m_getR (pc' := 74) fa_X11_channel_7 dX11_channel_71 (by decide) rfl rfl rfl rfl ?_
    refine m_bipush (pc' := 76) (v := 78) dX11_channel_74 (by decide) rfl ?_
    refine m_iload_n (pc' := 77) dX11_channel_76 rfl rfl ?_
    refine m_iadd (pc' := 78) dX11_channel_77 rfl ?_
    refine m_ialdN (pc' := 79) (j := 78 + c) (L := 408) dX11_channel_78 (by decide) rfl rfl (nI_add 78 c) (by omega) (by decide) rfl ?_
    show mM G mX11_channel 79 [some (.ref 214), some (.int (nI c)), some (.int 5)] [.int (d.1 215 (78 + c))] S1 (u2 d.1 214 0 0, d.2) (0, 0) Q
    rw [show (d.1 215 (78 + c)) = ((a_s A) (78 + c)) from congrFun hs (78 + c)]
    refine m_iret dX11_channel_79 rfl rfl ⟨by decide, by decide⟩ ?_
    exact q_i (hQ _ mfr.th hM.th) (if_neg h62).symm
  · skip
    refine m_ldc (pc' := 67) dX11_channel_65 kc_X11_channel_196 rfl ?_
    refine m_goto (tgt := 79) dX11_channel_67 (by decide) ?_
    refine m_iret dX11_channel_79 rfl rfl ⟨by decide, by decide⟩ ?_
    exact q_i (hQ _ mfr.th hM.th) (if_pos h62).symm
set_option maxHeartbeats 4000000 in
set_option maxRecDepth 100000 in
theorem p_chan6 {A : AS} {c : Nat} (hM : MM d A) (hc7 : c ≤ 7)  (hQ : ∀ d', mfr d d' → MM d' A → Q (some (.int (vChannel A (nI c) 6))) S1 d') : mC G mX11_channel [.ref 214, .int (nI c), .int 6] S1 d Q := by
  have hs : d.1 215 = a_s A := hM.1
  have h1 : bin (nI c) 0 7 = 1 := bin_nI (b := 7) (by omega)
  rw [show vChannel A (nI c) 6 = cor (a_s A) (a_s A (78 + c)) (a_s A 86) (a_s A 87) from by unfold vChannel; rw [if_neg (not_or.mpr ⟨by rw [h1]; decide, by decide⟩), if_neg (by decide), if_pos rfl, nn_nI (by omega)]] at hQ
  refine mC_of (by decide +kernel) ⟨_, rfl⟩ (Nat.le_of_ble_eq_true rfl) ?_
  show mM G mX11_channel 0 [some (.ref 214), some (.int (nI c)), some (.int 6)] [] S1 d (0, 0) Q
  refine m_aload_n (pc' := 1) dX11_channel_0 rfl rfl ?_
  refine m_iconst (pc' := 2) (v := 0) dX11_channel_1 (by decide) rfl ?_
  refine m_putI (pc' := 5) (ty := .int) fa_X11_channel_29 dX11_channel_2 (by decide +kernel) rfl rfl (by decide) rfl rfl rfl ?_
  refine m_iload_n (pc' := 6) dX11_channel_5 rfl rfl ?_
  refine m_callS (pc' := 9) (A := [.int (nI c)]) (rest := []) cl_X11_channel_103 dX11_channel_6 rfl rfl (Nat.le_of_ble_eq_true rfl) ⟨by decide, by decide⟩ rfl rfl ?_
  refine c_mch ?_
  show mM G mX11_channel 9 [some (.ref 214), some (.int (nI c)), some (.int 6)] [.int (bin (nI c) 0 7)] S1 (u2 d.1 214 0 0, d.2) (0, 0) Q
  rw [show (bin (nI c) 0 7) = 1 from h1]
  refine m_if_eq (tgt := 22) (pc' := 12) dX11_channel_9 (by decide) rfl (fun h9 => absurd h9 (by decide)) (fun h9 => ?_)
  refine m_iload_n (pc' := 13) dX11_channel_12 rfl rfl ?_
  refine m_iconst (pc' := 14) (v := 0) dX11_channel_13 (by decide) rfl ?_
  refine m_bipush (pc' := 16) (v := 7) dX11_channel_14 (by decide) rfl ?_
  refine m_callS (pc' := 19) (A := [.int 6, .int 0, .int 7]) (rest := []) cl_X11_channel_40 dX11_channel_16 rfl rfl (Nat.le_of_ble_eq_true rfl) ⟨by decide, by decide⟩ rfl rfl ?_
  refine c_in ?_
  show mM G mX11_channel 19 [some (.ref 214), some (.int (nI c)), some (.int 6)] [.int (bin 6 0 7)] S1 (u2 d.1 214 0 0, d.2) (0, 0) Q
  rw [show (bin 6 0 7) = 1 from rfl]
  refine m_if_ne (tgt := 25) (pc' := 22) dX11_channel_19 (by decide) rfl (fun h19 => ?_) (fun h19 => absurd h19 (by decide))
  refine m_iload_n (pc' := 26) dX11_channel_25 rfl rfl ?_
  refine m_tableIn (tgt := 80) (off := 54) dX11_channel_26 (by decide) (by decide) rfl (by decide) ?_
  refine m_aload_n (pc' := 81) dX11_channel_80 rfl rfl ?_
  refine m_iload_n (pc' := 82) dX11_channel_81 rfl rfl ?_
  refine m_callV (pc' := 85) (A := [.int (nI c)]) (rest := []) (b := 214) cl_X11_channel_197 dX11_channel_82 rfl rfl (Nat.le_of_ble_eq_true rfl) ⟨by decide, by decide⟩ (by decide) rfl rfl rfl rfl ?_
  refine c_mcorr (s := a_s A) hs (by omega) ?_
  show mM G mX11_channel 85 [some (.ref 214), some (.int (nI c)), some (.int 6)] [.int (cor (a_s A) ((a_s A) (78 + c)) ((a_s A) 86) ((a_s A) 87))] S1 (u2 d.1 214 0 0, d.2) (0, 0) Q
  refine m_iret dX11_channel_85 rfl rfl ⟨by decide, by decide⟩ ?_
  exact hQ _ mfr.th hM.th
set_option maxHeartbeats 4000000 in
set_option maxRecDepth 100000 in
theorem p_chan7 {A : AS} {c : Nat} (hM : MM d A) (hc7 : c ≤ 7) (hO : OK A) (hQ : ∀ d', mfr d d' → MM d' A → Q (some (.int (vChannel A (nI c) 7))) S1 d') : mC G mX11_channel [.ref 214, .int (nI c), .int 7] S1 d Q := by
  have hs : d.1 215 = a_s A := hM.1
  have h1 : bin (nI c) 0 7 = 1 := bin_nI (b := 7) (by omega)
  obtain ⟨n, hl⟩ := hO.l
  have e43 := hl.2.1
  have hn16 := hl.1
  have enn : nn (a_s A 43) = n := by rw [e43]; exact nn_nI (by omega)
  rw [show vChannel A (nI c) 7 = cen (a_s A) (nI c) n from by unfold vChannel; rw [if_neg (not_or.mpr ⟨by rw [h1]; decide, by decide⟩), if_neg (by decide), if_neg (by decide), if_pos rfl, enn]] at hQ
  refine mC_of (by decide +kernel) ⟨_, rfl⟩ (Nat.le_of_ble_eq_true rfl) ?_
  show mM G mX11_channel 0 [some (.ref 214), some (.int (nI c)), some (.int 7)] [] S1 d (0, 0) Q
  refine m_aload_n (pc' := 1) dX11_channel_0 rfl rfl ?_
  refine m_iconst (pc' := 2) (v := 0) dX11_channel_1 (by decide) rfl ?_
  refine m_putI (pc' := 5) (ty := .int) fa_X11_channel_29 dX11_channel_2 (by decide +kernel) rfl rfl (by decide) rfl rfl rfl ?_
  refine m_iload_n (pc' := 6) dX11_channel_5 rfl rfl ?_
  refine m_callS (pc' := 9) (A := [.int (nI c)]) (rest := []) cl_X11_channel_103 dX11_channel_6 rfl rfl (Nat.le_of_ble_eq_true rfl) ⟨by decide, by decide⟩ rfl rfl ?_
  refine c_mch ?_
  show mM G mX11_channel 9 [some (.ref 214), some (.int (nI c)), some (.int 7)] [.int (bin (nI c) 0 7)] S1 (u2 d.1 214 0 0, d.2) (0, 0) Q
  rw [show (bin (nI c) 0 7) = 1 from h1]
  refine m_if_eq (tgt := 22) (pc' := 12) dX11_channel_9 (by decide) rfl (fun h9 => absurd h9 (by decide)) (fun h9 => ?_)
  refine m_iload_n (pc' := 13) dX11_channel_12 rfl rfl ?_
  refine m_iconst (pc' := 14) (v := 0) dX11_channel_13 (by decide) rfl ?_
  refine m_bipush (pc' := 16) (v := 7) dX11_channel_14 (by decide) rfl ?_
  refine m_callS (pc' := 19) (A := [.int 7, .int 0, .int 7]) (rest := []) cl_X11_channel_40 dX11_channel_16 rfl rfl (Nat.le_of_ble_eq_true rfl) ⟨by decide, by decide⟩ rfl rfl ?_
  refine c_in ?_
  show mM G mX11_channel 19 [some (.ref 214), some (.int (nI c)), some (.int 7)] [.int (bin 7 0 7)] S1 (u2 d.1 214 0 0, d.2) (0, 0) Q
  rw [show (bin 7 0 7) = 1 from rfl]
  refine m_if_ne (tgt := 25) (pc' := 22) dX11_channel_19 (by decide) rfl (fun h19 => ?_) (fun h19 => absurd h19 (by decide))
  refine m_iload_n (pc' := 26) dX11_channel_25 rfl rfl ?_
  refine m_tableIn (tgt := 86) (off := 60) dX11_channel_26 (by decide) (by decide) rfl (by decide) ?_
  refine m_aload_n (pc' := 87) dX11_channel_86 rfl rfl ?_
  refine m_iload_n (pc' := 88) dX11_channel_87 rfl rfl ?_
  refine m_callV (pc' := 91) (A := [.int (nI c)]) (rest := []) (b := 214) cl_X11_channel_200 dX11_channel_88 rfl rfl (Nat.le_of_ble_eq_true rfl) ⟨by decide, by decide⟩ (by decide) rfl rfl rfl rfl ?_
  refine c_mentriesOf (s := a_s A) hs hl ?_
  show mM G mX11_channel 91 [some (.ref 214), some (.int (nI c)), some (.int 7)] [.int (cen (a_s A) (nI c) n)] S1 (u2 d.1 214 0 0, d.2) (0, 0) Q
  refine m_iret dX11_channel_91 rfl rfl ⟨by decide, by decide⟩ ?_
  exact hQ _ mfr.th hM.th
set_option maxHeartbeats 4000000 in
set_option maxRecDepth 100000 in
theorem p_chanD {A : AS} {c w : Nat} (hM : MM d A) (hc7 : c ≤ 7) (hw4 : w ≤ 4) (hQ : ∀ d', mfr d d' → MM d' A → Q (some (.int (vChannel A (nI c) (nI w)))) S1 d') : mC G mX11_channel [.ref 214, .int (nI c), .int (nI w)] S1 d Q := by
  have hs : d.1 215 = a_s A := hM.1
  have h1 : bin (nI c) 0 7 = 1 := bin_nI (b := 7) (by omega)
  have h2 : bin (nI w) 0 7 = 1 := bin_nI (b := 7) (by omega)
  have t5 : (nI w).toInt < 5 := by rcases (show w = 0 ∨ w = 1 ∨ w = 2 ∨ w = 3 ∨ w = 4 by omega) with rfl | rfl | rfl | rfl | rfl <;> decide
  rw [show vChannel A (nI c) (nI w) = a_s A (5 * c + w) from by unfold vChannel; rw [if_neg (not_or.mpr ⟨by rw [h1]; decide, by rw [h2]; decide⟩), if_neg (fun h => absurd (congrArg Int32.toInt h) (by have : ((5 : Int32)).toInt = 5 := (by decide); omega)), if_neg (fun h => absurd (congrArg Int32.toInt h) (by have : ((6 : Int32)).toInt = 6 := (by decide); omega)), if_neg (fun h => absurd (congrArg Int32.toInt h) (by have : ((7 : Int32)).toInt = 7 := (by decide); omega)), nn_nI (by omega), nn_nI (by omega)]] at hQ
  refine mC_of (by decide +kernel) ⟨_, rfl⟩ (Nat.le_of_ble_eq_true rfl) ?_
  show mM G mX11_channel 0 [some (.ref 214), some (.int (nI c)), some (.int (nI w))] [] S1 d (0, 0) Q
  refine m_aload_n (pc' := 1) dX11_channel_0 rfl rfl ?_
  refine m_iconst (pc' := 2) (v := 0) dX11_channel_1 (by decide) rfl ?_
  refine m_putI (pc' := 5) (ty := .int) fa_X11_channel_29 dX11_channel_2 (by decide +kernel) rfl rfl (by decide) rfl rfl rfl ?_
  refine m_iload_n (pc' := 6) dX11_channel_5 rfl rfl ?_
  refine m_callS (pc' := 9) (A := [.int (nI c)]) (rest := []) cl_X11_channel_103 dX11_channel_6 rfl rfl (Nat.le_of_ble_eq_true rfl) ⟨by decide, by decide⟩ rfl rfl ?_
  refine c_mch ?_
  show mM G mX11_channel 9 [some (.ref 214), some (.int (nI c)), some (.int (nI w))] [.int (bin (nI c) 0 7)] S1 (u2 d.1 214 0 0, d.2) (0, 0) Q
  rw [show (bin (nI c) 0 7) = 1 from h1]
  refine m_if_eq (tgt := 22) (pc' := 12) dX11_channel_9 (by decide) rfl (fun h9 => absurd h9 (by decide)) (fun h9 => ?_)
  refine m_iload_n (pc' := 13) dX11_channel_12 rfl rfl ?_
  refine m_iconst (pc' := 14) (v := 0) dX11_channel_13 (by decide) rfl ?_
  refine m_bipush (pc' := 16) (v := 7) dX11_channel_14 (by decide) rfl ?_
  refine m_callS (pc' := 19) (A := [.int (nI w), .int 0, .int 7]) (rest := []) cl_X11_channel_40 dX11_channel_16 rfl rfl (Nat.le_of_ble_eq_true rfl) ⟨by decide, by decide⟩ rfl rfl ?_
  refine c_in ?_
  show mM G mX11_channel 19 [some (.ref 214), some (.int (nI c)), some (.int (nI w))] [.int (bin (nI w) 0 7)] S1 (u2 d.1 214 0 0, d.2) (0, 0) Q
  rw [show (bin (nI w) 0 7) = 1 from h2]
  refine m_if_ne (tgt := 25) (pc' := 22) dX11_channel_19 (by decide) rfl (fun h19 => ?_) (fun h19 => absurd h19 (by decide))
  refine m_iload_n (pc' := 26) dX11_channel_25 rfl rfl ?_
  refine m_tableOut (tgt := 92) dX11_channel_26 (Or.inl t5) (by decide) ?_
  refine m_aload_n (pc' := 93) dX11_channel_92 rfl rfl ?_
  refine m_iload_n (pc' := 94) dX11_channel_93 rfl rfl ?_
  refine m_iload_n (pc' := 95) dX11_channel_94 rfl rfl ?_
  refine m_callV (pc' := 98) (A := [.int (nI c), .int (nI w)]) (rest := []) (b := 214) cl_X11_channel_44 dX11_channel_95 rfl rfl (Nat.le_of_ble_eq_true rfl) ⟨by decide, by decide⟩ (by decide) rfl rfl rfl rfl ?_
  refine c_of (k := 5 * c + w) (s := a_s A) hs (ix_c c w) (by omega) ?_
  show mM G mX11_channel 98 [some (.ref 214), some (.int (nI c)), some (.int (nI w))] [.int ((a_s A) (5 * c + w))] S1 (u2 d.1 214 0 0, d.2) (0, 0) Q
  refine m_iret dX11_channel_98 rfl rfl ⟨by decide, by decide⟩ ?_
  exact hQ _ mfr.th hM.th
set_option maxHeartbeats 4000000 in
set_option maxRecDepth 100000 in
theorem p_chanX {A : AS} {c w : Int32} (hM : MM d A) (hbad : bin c 0 7 = 0 ∨ bin w 0 7 = 0) (hQ : ∀ d', mfr d d' → MM d' A → Q (some (.int (vChannel A c w))) S1 d') : mC G mX11_channel [.ref 214, .int c, .int w] S1 d Q := by
  by_cases h1 : bin c 0 7 = 0
  · skip
    rw [show vChannel A c w = eI from if_pos (Or.inl h1)] at hQ
    refine mC_of (by decide +kernel) ⟨_, rfl⟩ (Nat.le_of_ble_eq_true rfl) ?_
    show mM G mX11_channel 0 [some (.ref 214), some (.int c), some (.int w)] [] S1 d (0, 0) Q
    refine m_aload_n (pc' := 1) dX11_channel_0 rfl rfl ?_
    refine m_iconst (pc' := 2) (v := 0) dX11_channel_1 (by decide) rfl ?_
    refine m_putI (pc' := 5) (ty := .int) fa_X11_channel_29 dX11_channel_2 (by decide +kernel) rfl rfl (by decide) rfl rfl rfl ?_
    refine m_iload_n (pc' := 6) dX11_channel_5 rfl rfl ?_
    refine m_callS (pc' := 9) (A := [.int c]) (rest := []) cl_X11_channel_103 dX11_channel_6 rfl rfl (Nat.le_of_ble_eq_true rfl) ⟨by decide, by decide⟩ rfl rfl ?_
    refine c_mch ?_
    show mM G mX11_channel 9 [some (.ref 214), some (.int c), some (.int w)] [.int (bin c 0 7)] S1 (u2 d.1 214 0 0, d.2) (0, 0) Q
    rw [show (bin c 0 7) = 0 from h1]
    refine m_if_eq (tgt := 22) (pc' := 12) dX11_channel_9 (by decide) rfl (fun h9 => ?_) (fun h9 => absurd h9 (by decide))
    refine m_ldc (pc' := 24) dX11_channel_22 kc_X11_channel_111 rfl ?_
    refine m_iret dX11_channel_24 rfl rfl ⟨by decide, by decide⟩ ?_
    exact hQ _ mfr.th hM.th
  have h2 := hbad.resolve_left h1
  rw [show vChannel A c w = eI from if_pos (Or.inr h2)] at hQ
  refine mC_of (by decide +kernel) ⟨_, rfl⟩ (Nat.le_of_ble_eq_true rfl) ?_
  show mM G mX11_channel 0 [some (.ref 214), some (.int c), some (.int w)] [] S1 d (0, 0) Q
  refine m_aload_n (pc' := 1) dX11_channel_0 rfl rfl ?_
  refine m_iconst (pc' := 2) (v := 0) dX11_channel_1 (by decide) rfl ?_
  refine m_putI (pc' := 5) (ty := .int) fa_X11_channel_29 dX11_channel_2 (by decide +kernel) rfl rfl (by decide) rfl rfl rfl ?_
  refine m_iload_n (pc' := 6) dX11_channel_5 rfl rfl ?_
  refine m_callS (pc' := 9) (A := [.int c]) (rest := []) cl_X11_channel_103 dX11_channel_6 rfl rfl (Nat.le_of_ble_eq_true rfl) ⟨by decide, by decide⟩ rfl rfl ?_
  refine c_mch ?_
  show mM G mX11_channel 9 [some (.ref 214), some (.int c), some (.int w)] [.int (bin c 0 7)] S1 (u2 d.1 214 0 0, d.2) (0, 0) Q
  rw [show (bin c 0 7) = 1 from bin_1 h1]
  refine m_if_eq (tgt := 22) (pc' := 12) dX11_channel_9 (by decide) rfl (fun h9 => absurd h9 (by decide)) (fun h9 => ?_)
  refine m_iload_n (pc' := 13) dX11_channel_12 rfl rfl ?_
  refine m_iconst (pc' := 14) (v := 0) dX11_channel_13 (by decide) rfl ?_
  refine m_bipush (pc' := 16) (v := 7) dX11_channel_14 (by decide) rfl ?_
  refine m_callS (pc' := 19) (A := [.int w, .int 0, .int 7]) (rest := []) cl_X11_channel_40 dX11_channel_16 rfl rfl (Nat.le_of_ble_eq_true rfl) ⟨by decide, by decide⟩ rfl rfl ?_
  refine c_in ?_
  show mM G mX11_channel 19 [some (.ref 214), some (.int c), some (.int w)] [.int (bin w 0 7)] S1 (u2 d.1 214 0 0, d.2) (0, 0) Q
  rw [show (bin w 0 7) = 0 from h2]
  refine m_if_ne (tgt := 25) (pc' := 22) dX11_channel_19 (by decide) rfl (fun h19 => absurd h19 (by decide)) (fun h19 => ?_)
  refine m_ldc (pc' := 24) dX11_channel_22 kc_X11_channel_111 rfl ?_
  refine m_iret dX11_channel_24 rfl rfl ⟨by decide, by decide⟩ ?_
  exact hQ _ mfr.th hM.th
theorem p_channel {A : AS} {c w : Int32} (hM : MM d A) (hO : OK A) (hQ : ∀ d', mfr d d' → MM d' A → Q (some (.int (vChannel A c w))) S1 d') : mC G mX11_channel [.ref 214, .int c, .int w] S1 d Q := by
  by_cases h1 : bin c 0 7 = 0
  · exact p_chanX hM (Or.inl h1) hQ
  by_cases h2 : bin w 0 7 = 0
  · exact p_chanX hM (Or.inr h2) hQ
  obtain ⟨c, hc, rfl⟩ := bin_t (b := 7) (by decide) h1
  obtain ⟨w, hw, rfl⟩ := bin_t (b := 7) (by decide) h2
  rcases (show w ≤ 4 ∨ w = 5 ∨ w = 6 ∨ w = 7 by omega) with h | rfl | rfl | rfl
  · exact p_chanD hM hc h hQ
  · exact p_chan5 hM hc hQ
  · exact p_chan6 hM hc hQ
  · exact p_chan7 hM hc hO hQ
set_option maxHeartbeats 4000000 in
set_option maxRecDepth 100000 in
theorem p_entry {A : AS} {e w : Int32} (hM : MM d A) (hO : OK A) (hQ : ∀ d', mfr d d' → MM d' A → Q (some (.int (vEntry A e w))) S1 d') : mC G mX11_entry [.ref 214, .int e, .int w] S1 d Q := by
  by_cases h1 : e < 0
  · skip
    rw [show vEntry A e w = eI from if_pos (Or.inl h1)] at hQ
    refine mC_of (by decide +kernel) ⟨_, rfl⟩ (Nat.le_of_ble_eq_true rfl) ?_
    show mM G mX11_entry 0 [some (.ref 214), some (.int e), some (.int w)] [] S1 d (0, 0) Q
    refine m_aload_n (pc' := 1) dX11_entry_0 rfl rfl ?_
    refine m_iconst (pc' := 2) (v := 0) dX11_entry_1 (by decide) rfl ?_
    refine m_putI (pc' := 5) (ty := .int) fa_X11_entry_29 dX11_entry_2 (by decide +kernel) rfl rfl (by decide) rfl rfl rfl ?_
    refine m_iload_n (pc' := 6) dX11_entry_5 rfl rfl ?_
    refine m_if_lt (tgt := 18) (pc' := 9) dX11_entry_6 (by decide) rfl (fun h6 => ?_) (fun h6 => (h6 h1).elim)
    refine m_ldc (pc' := 20) dX11_entry_18 kc_X11_entry_111 rfl ?_
    refine m_iret dX11_entry_20 rfl rfl ⟨by decide, by decide⟩ ?_
    exact hQ _ mfr.th hM.th
  by_cases h2 : bin w 0 1 = 0
  · skip
    rw [show vEntry A e w = eI from if_pos (Or.inr h2)] at hQ
    refine mC_of (by decide +kernel) ⟨_, rfl⟩ (Nat.le_of_ble_eq_true rfl) ?_
    show mM G mX11_entry 0 [some (.ref 214), some (.int e), some (.int w)] [] S1 d (0, 0) Q
    refine m_aload_n (pc' := 1) dX11_entry_0 rfl rfl ?_
    refine m_iconst (pc' := 2) (v := 0) dX11_entry_1 (by decide) rfl ?_
    refine m_putI (pc' := 5) (ty := .int) fa_X11_entry_29 dX11_entry_2 (by decide +kernel) rfl rfl (by decide) rfl rfl rfl ?_
    refine m_iload_n (pc' := 6) dX11_entry_5 rfl rfl ?_
    refine m_if_lt (tgt := 18) (pc' := 9) dX11_entry_6 (by decide) rfl (fun h6 => absurd h6 (h1)) (fun h6 => ?_)
    refine m_iload_n (pc' := 10) dX11_entry_9 rfl rfl ?_
    refine m_iconst (pc' := 11) (v := 0) dX11_entry_10 (by decide) rfl ?_
    refine m_iconst (pc' := 12) (v := 1) dX11_entry_11 (by decide) rfl ?_
    refine m_callS (pc' := 15) (A := [.int w, .int 0, .int 1]) (rest := []) cl_X11_entry_40 dX11_entry_12 rfl rfl (Nat.le_of_ble_eq_true rfl) ⟨by decide, by decide⟩ rfl rfl ?_
    refine c_in ?_
    show mM G mX11_entry 15 [some (.ref 214), some (.int e), some (.int w)] [.int (bin w 0 1)] S1 (u2 d.1 214 0 0, d.2) (0, 0) Q
    rw [show (bin w 0 1) = 0 from h2]
    refine m_if_ne (tgt := 21) (pc' := 18) dX11_entry_15 (by decide) rfl (fun h15 => absurd h15 (by decide)) (fun h15 => ?_)
    refine m_ldc (pc' := 20) dX11_entry_18 kc_X11_entry_111 rfl ?_
    refine m_iret dX11_entry_20 rfl rfl ⟨by decide, by decide⟩ ?_
    exact hQ _ mfr.th hM.th
  have hs : d.1 215 = a_s A := hM.1
  obtain ⟨n, hl⟩ := hO.l
  have e43 := hl.2.1
  have hn16 := hl.1
  obtain ⟨x, hx31, rfl⟩ := nI_of h1
  obtain ⟨w, hw, rfl⟩ := bin_t (b := 1) (by decide) h2
  have hv : vEntry A (nI x) (nI w) = if nI x < a_s A 43 then a_s A (44 + 2 * x + w) else eN := by unfold vEntry; rw [if_neg (not_or.mpr ⟨h1, h2⟩), nn_nI hx31, nn_nI (by omega)]
  by_cases h3 : nI x < a_s A 43
  · skip
    have hx : x < n := (nI_ltI hx31 (by omega)).mp (e43 ▸ h3)
    rw [show vEntry A (nI x) (nI w) = a_s A (44 + 2 * x + w) from hv.trans (if_pos h3)] at hQ
    refine mC_of (by decide +kernel) ⟨_, rfl⟩ (Nat.le_of_ble_eq_true rfl) ?_
    show mM G mX11_entry 0 [some (.ref 214), some (.int (nI x)), some (.int (nI w))] [] S1 d (0, 0) Q
    refine m_aload_n (pc' := 1) dX11_entry_0 rfl rfl ?_
    refine m_iconst (pc' := 2) (v := 0) dX11_entry_1 (by decide) rfl ?_
    refine m_putI (pc' := 5) (ty := .int) fa_X11_entry_29 dX11_entry_2 (by decide +kernel) rfl rfl (by decide) rfl rfl rfl ?_
    refine m_iload_n (pc' := 6) dX11_entry_5 rfl rfl ?_
    refine m_if_lt (tgt := 18) (pc' := 9) dX11_entry_6 (by decide) rfl (fun h6 => absurd h6 (h1)) (fun h6 => ?_)
    refine m_iload_n (pc' := 10) dX11_entry_9 rfl rfl ?_
    refine m_iconst (pc' := 11) (v := 0) dX11_entry_10 (by decide) rfl ?_
    refine m_iconst (pc' := 12) (v := 1) dX11_entry_11 (by decide) rfl ?_
    refine m_callS (pc' := 15) (A := [.int (nI w), .int 0, .int 1]) (rest := []) cl_X11_entry_40 dX11_entry_12 rfl rfl (Nat.le_of_ble_eq_true rfl) ⟨by decide, by decide⟩ rfl rfl ?_
    refine c_in ?_
    show mM G mX11_entry 15 [some (.ref 214), some (.int (nI x)), some (.int (nI w))] [.int (bin (nI w) 0 1)] S1 (u2 d.1 214 0 0, d.2) (0, 0) Q
    rw [show (bin (nI w) 0 1) = 1 from bin_1 h2]
    refine m_if_ne (tgt := 21) (pc' := 18) dX11_entry_15 (by decide) rfl (fun h15 => ?_) (fun h15 => absurd h15 (by decide))
    refine m_iload_n (pc' := 22) dX11_entry_21 rfl rfl ?_
    refine m_aload_n (pc' := 23) dX11_entry_22 rfl rfl ?_
    refine m_getR (pc' := 26) fa_X11_entry_7 dX11_entry_23 (by decide) rfl rfl rfl rfl ?_
    refine m_bipush (pc' := 28) (v := 43) dX11_entry_26 (by decide) rfl ?_
    refine m_ialdN (pc' := 29) (j := 43) (L := 408) dX11_entry_28 (by decide) rfl rfl (rfl) (by decide) (by decide) rfl ?_
    show mM G mX11_entry 29 [some (.ref 214), some (.int (nI x)), some (.int (nI w))] [.int (d.1 215 43), .int (nI x)] S1 (u2 d.1 214 0 0, d.2) (0, 0) Q
    rw [show (d.1 215 43) = ((a_s A) 43) from congrFun hs 43]
    refine m_icmp_ge (tgt := 48) (pc' := 32) dX11_entry_29 (by decide) rfl (fun h29 => absurd h29 (Int32.not_le.mpr h3)) (fun h29 => ?_)
    refine m_aload_n (pc' := 33) dX11_entry_32 rfl rfl ?_
    refine m_getR (pc' := 36) fa_X11_entry_7 dX11_entry_33 (by decide) rfl rfl rfl rfl ?_
    refine m_bipush (pc' := 38) (v := 44) dX11_entry_36 (by decide) rfl ?_
    refine m_iconst (pc' := 39) (v := 2) dX11_entry_38 (by decide) rfl ?_
    refine m_iload_n (pc' := 40) dX11_entry_39 rfl rfl ?_
    refine m_imul (pc' := 41) dX11_entry_40 rfl ?_
    refine m_iadd (pc' := 42) dX11_entry_41 rfl ?_
    refine m_iload_n (pc' := 43) dX11_entry_42 rfl rfl ?_
    refine m_iadd (pc' := 44) dX11_entry_43 rfl ?_
    refine m_ialdN (pc' := 45) (j := 44 + 2 * x + w) (L := 408) dX11_entry_44 (by decide) rfl rfl (ix_ew x w) (by omega) (by decide) rfl ?_
    show mM G mX11_entry 45 [some (.ref 214), some (.int (nI x)), some (.int (nI w))] [.int (d.1 215 (44 + 2 * x + w))] S1 (u2 d.1 214 0 0, d.2) (0, 0) Q
    rw [show (d.1 215 (44 + 2 * x + w)) = ((a_s A) (44 + 2 * x + w)) from congrFun hs (44 + 2 * x + w)]
    refine m_goto (tgt := 50) dX11_entry_45 (by decide) ?_
    refine m_iret dX11_entry_50 rfl rfl ⟨by decide, by decide⟩ ?_
    exact hQ _ mfr.th hM.th
  rw [show vEntry A (nI x) (nI w) = eN from hv.trans (if_neg h3)] at hQ
  refine mC_of (by decide +kernel) ⟨_, rfl⟩ (Nat.le_of_ble_eq_true rfl) ?_
  show mM G mX11_entry 0 [some (.ref 214), some (.int (nI x)), some (.int (nI w))] [] S1 d (0, 0) Q
  refine m_aload_n (pc' := 1) dX11_entry_0 rfl rfl ?_
  refine m_iconst (pc' := 2) (v := 0) dX11_entry_1 (by decide) rfl ?_
  refine m_putI (pc' := 5) (ty := .int) fa_X11_entry_29 dX11_entry_2 (by decide +kernel) rfl rfl (by decide) rfl rfl rfl ?_
  refine m_iload_n (pc' := 6) dX11_entry_5 rfl rfl ?_
  refine m_if_lt (tgt := 18) (pc' := 9) dX11_entry_6 (by decide) rfl (fun h6 => absurd h6 (h1)) (fun h6 => ?_)
  refine m_iload_n (pc' := 10) dX11_entry_9 rfl rfl ?_
  refine m_iconst (pc' := 11) (v := 0) dX11_entry_10 (by decide) rfl ?_
  refine m_iconst (pc' := 12) (v := 1) dX11_entry_11 (by decide) rfl ?_
  refine m_callS (pc' := 15) (A := [.int (nI w), .int 0, .int 1]) (rest := []) cl_X11_entry_40 dX11_entry_12 rfl rfl (Nat.le_of_ble_eq_true rfl) ⟨by decide, by decide⟩ rfl rfl ?_
  refine c_in ?_
  show mM G mX11_entry 15 [some (.ref 214), some (.int (nI x)), some (.int (nI w))] [.int (bin (nI w) 0 1)] S1 (u2 d.1 214 0 0, d.2) (0, 0) Q
  rw [show (bin (nI w) 0 1) = 1 from bin_1 h2]
  refine m_if_ne (tgt := 21) (pc' := 18) dX11_entry_15 (by decide) rfl (fun h15 => ?_) (fun h15 => absurd h15 (by decide))
  refine m_iload_n (pc' := 22) dX11_entry_21 rfl rfl ?_
  refine m_aload_n (pc' := 23) dX11_entry_22 rfl rfl ?_
  refine m_getR (pc' := 26) fa_X11_entry_7 dX11_entry_23 (by decide) rfl rfl rfl rfl ?_
  refine m_bipush (pc' := 28) (v := 43) dX11_entry_26 (by decide) rfl ?_
  refine m_ialdN (pc' := 29) (j := 43) (L := 408) dX11_entry_28 (by decide) rfl rfl (rfl) (by decide) (by decide) rfl ?_
  show mM G mX11_entry 29 [some (.ref 214), some (.int (nI x)), some (.int (nI w))] [.int (d.1 215 43), .int (nI x)] S1 (u2 d.1 214 0 0, d.2) (0, 0) Q
  rw [show (d.1 215 43) = ((a_s A) 43) from congrFun hs 43]
  refine m_icmp_ge (tgt := 48) (pc' := 32) dX11_entry_29 (by decide) rfl (fun h29 => ?_) (fun h29 => (h29 (Int32.not_lt.mp h3)).elim)
  refine m_ldc (pc' := 50) dX11_entry_48 kc_X11_entry_196 rfl ?_
  refine m_iret dX11_entry_50 rfl rfl ⟨by decide, by decide⟩ ?_
  exact hQ _ mfr.th hM.th
set_option maxHeartbeats 4000000 in
set_option maxRecDepth 100000 in
theorem p_value {A : AS} {c t : Int32} (hM : MM d A) (hO : OK A) (hQ : ∀ d', mfr d d' → MM d' A → Q (some (.int (vValue A c t))) S1 d') : mC G mX11_value [.ref 214, .int c, .int t] S1 d Q := by
  by_cases h1 : bin c 0 7 = 0
  · skip
    rw [show vValue A c t = eI from if_pos (Or.inl h1)] at hQ
    refine mC_of (by decide +kernel) ⟨_, rfl⟩ (Nat.le_of_ble_eq_true rfl) ?_
    show mM G mX11_value 0 [some (.ref 214), some (.int c), some (.int t)] [] S1 d (0, 0) Q
    refine m_aload_n (pc' := 1) dX11_value_0 rfl rfl ?_
    refine m_iconst (pc' := 2) (v := 0) dX11_value_1 (by decide) rfl ?_
    refine m_putI (pc' := 5) (ty := .int) fa_X11_value_29 dX11_value_2 (by decide +kernel) rfl rfl (by decide) rfl rfl rfl ?_
    refine m_iload_n (pc' := 6) dX11_value_5 rfl rfl ?_
    refine m_callS (pc' := 9) (A := [.int c]) (rest := []) cl_X11_value_103 dX11_value_6 rfl rfl (Nat.le_of_ble_eq_true rfl) ⟨by decide, by decide⟩ rfl rfl ?_
    refine c_mch ?_
    show mM G mX11_value 9 [some (.ref 214), some (.int c), some (.int t)] [.int (bin c 0 7)] S1 (u2 d.1 214 0 0, d.2) (0, 0) Q
    rw [show (bin c 0 7) = 0 from h1]
    refine m_if_eq (tgt := 32) (pc' := 12) dX11_value_9 (by decide) rfl (fun h9 => ?_) (fun h9 => absurd h9 (by decide))
    refine m_ldc (pc' := 34) dX11_value_32 kc_X11_value_111 rfl ?_
    refine m_iret dX11_value_34 rfl rfl ⟨by decide, by decide⟩ ?_
    exact hQ _ mfr.th hM.th
  by_cases h2 : bin t 0 9999 = 0
  · skip
    rw [show vValue A c t = eI from if_pos (Or.inr h2)] at hQ
    refine mC_of (by decide +kernel) ⟨_, rfl⟩ (Nat.le_of_ble_eq_true rfl) ?_
    show mM G mX11_value 0 [some (.ref 214), some (.int c), some (.int t)] [] S1 d (0, 0) Q
    refine m_aload_n (pc' := 1) dX11_value_0 rfl rfl ?_
    refine m_iconst (pc' := 2) (v := 0) dX11_value_1 (by decide) rfl ?_
    refine m_putI (pc' := 5) (ty := .int) fa_X11_value_29 dX11_value_2 (by decide +kernel) rfl rfl (by decide) rfl rfl rfl ?_
    refine m_iload_n (pc' := 6) dX11_value_5 rfl rfl ?_
    refine m_callS (pc' := 9) (A := [.int c]) (rest := []) cl_X11_value_103 dX11_value_6 rfl rfl (Nat.le_of_ble_eq_true rfl) ⟨by decide, by decide⟩ rfl rfl ?_
    refine c_mch ?_
    show mM G mX11_value 9 [some (.ref 214), some (.int c), some (.int t)] [.int (bin c 0 7)] S1 (u2 d.1 214 0 0, d.2) (0, 0) Q
    rw [show (bin c 0 7) = 1 from bin_1 h1]
    refine m_if_eq (tgt := 32) (pc' := 12) dX11_value_9 (by decide) rfl (fun h9 => absurd h9 (by decide)) (fun h9 => ?_)
    refine m_iload_n (pc' := 13) dX11_value_12 rfl rfl ?_
    refine m_iconst (pc' := 14) (v := 0) dX11_value_13 (by decide) rfl ?_
    refine m_sipush (pc' := 17) (v := 9999) dX11_value_14 (by decide) rfl ?_
    refine m_callS (pc' := 20) (A := [.int t, .int 0, .int 9999]) (rest := []) cl_X11_value_40 dX11_value_17 rfl rfl (Nat.le_of_ble_eq_true rfl) ⟨by decide, by decide⟩ rfl rfl ?_
    refine c_in ?_
    show mM G mX11_value 20 [some (.ref 214), some (.int c), some (.int t)] [.int (bin t 0 9999)] S1 (u2 d.1 214 0 0, d.2) (0, 0) Q
    rw [show (bin t 0 9999) = 0 from h2]
    refine m_if_eq (tgt := 32) (pc' := 23) dX11_value_20 (by decide) rfl (fun h20 => ?_) (fun h20 => absurd h20 (by decide))
    refine m_ldc (pc' := 34) dX11_value_32 kc_X11_value_111 rfl ?_
    refine m_iret dX11_value_34 rfl rfl ⟨by decide, by decide⟩ ?_
    exact hQ _ mfr.th hM.th
  have hs : d.1 215 = a_s A := hM.1
  obtain ⟨c, hc, rfl⟩ := bin_t (b := 7) (by decide) h1
  rw [show vValue A (nI c) t = cvl (a_s A) c t from by unfold vValue; rw [if_neg (not_or.mpr ⟨h1, h2⟩), nn_nI (by omega)]] at hQ
  refine mC_of (by decide +kernel) ⟨_, rfl⟩ (Nat.le_of_ble_eq_true rfl) ?_
  show mM G mX11_value 0 [some (.ref 214), some (.int (nI c)), some (.int t)] [] S1 d (0, 0) Q
  refine m_aload_n (pc' := 1) dX11_value_0 rfl rfl ?_
  refine m_iconst (pc' := 2) (v := 0) dX11_value_1 (by decide) rfl ?_
  refine m_putI (pc' := 5) (ty := .int) fa_X11_value_29 dX11_value_2 (by decide +kernel) rfl rfl (by decide) rfl rfl rfl ?_
  refine m_iload_n (pc' := 6) dX11_value_5 rfl rfl ?_
  refine m_callS (pc' := 9) (A := [.int (nI c)]) (rest := []) cl_X11_value_103 dX11_value_6 rfl rfl (Nat.le_of_ble_eq_true rfl) ⟨by decide, by decide⟩ rfl rfl ?_
  refine c_mch ?_
  show mM G mX11_value 9 [some (.ref 214), some (.int (nI c)), some (.int t)] [.int (bin (nI c) 0 7)] S1 (u2 d.1 214 0 0, d.2) (0, 0) Q
  rw [show (bin (nI c) 0 7) = 1 from bin_1 h1]
  refine m_if_eq (tgt := 32) (pc' := 12) dX11_value_9 (by decide) rfl (fun h9 => absurd h9 (by decide)) (fun h9 => ?_)
  refine m_iload_n (pc' := 13) dX11_value_12 rfl rfl ?_
  refine m_iconst (pc' := 14) (v := 0) dX11_value_13 (by decide) rfl ?_
  refine m_sipush (pc' := 17) (v := 9999) dX11_value_14 (by decide) rfl ?_
  refine m_callS (pc' := 20) (A := [.int t, .int 0, .int 9999]) (rest := []) cl_X11_value_40 dX11_value_17 rfl rfl (Nat.le_of_ble_eq_true rfl) ⟨by decide, by decide⟩ rfl rfl ?_
  refine c_in ?_
  show mM G mX11_value 20 [some (.ref 214), some (.int (nI c)), some (.int t)] [.int (bin t 0 9999)] S1 (u2 d.1 214 0 0, d.2) (0, 0) Q
  rw [show (bin t 0 9999) = 1 from bin_1 h2]
  refine m_if_eq (tgt := 32) (pc' := 23) dX11_value_20 (by decide) rfl (fun h20 => absurd h20 (by decide)) (fun h20 => ?_)
  refine m_aload_n (pc' := 24) dX11_value_23 rfl rfl ?_
  refine m_iload_n (pc' := 25) dX11_value_24 rfl rfl ?_
  refine m_iload_n (pc' := 26) dX11_value_25 rfl rfl ?_
  refine m_callV (pc' := 29) (A := [.int (nI c), .int t]) (rest := []) (b := 214) cl_X11_value_51 dX11_value_26 rfl rfl (Nat.le_of_ble_eq_true rfl) ⟨by decide, by decide⟩ (by decide) rfl rfl rfl rfl ?_
  refine c_mvalueAt (s := a_s A) hs (by omega) (okC_per (hO.c c (by omega))) ?_
  show mM G mX11_value 29 [some (.ref 214), some (.int (nI c)), some (.int t)] [.int (cvl (a_s A) c t)] S1 (u2 d.1 214 0 0, d.2) (0, 0) Q
  refine m_goto (tgt := 34) dX11_value_29 (by decide) ?_
  refine m_iret dX11_value_34 rfl rfl ⟨by decide, by decide⟩ ?_
  exact hQ _ mfr.th hM.th
set_option maxHeartbeats 4000000 in
set_option maxRecDepth 100000 in
theorem p_sample {A : AS} {b w : Int32} (hM : MM d A) (hO : OK A) (hQ : ∀ d', mfr d d' → MM d' A → Q (some (.int (vSample A b w))) S1 d') : mC G mX11_sample [.ref 214, .int b, .int w] S1 d Q := by
  by_cases h1 : b < 0
  · skip
    rw [show vSample A b w = eI from if_pos (Or.inl h1)] at hQ
    refine mC_of (by decide +kernel) ⟨_, rfl⟩ (Nat.le_of_ble_eq_true rfl) ?_
    show mM G mX11_sample 0 [some (.ref 214), some (.int b), some (.int w)] [] S1 d (0, 0) Q
    refine m_aload_n (pc' := 1) dX11_sample_0 rfl rfl ?_
    refine m_iconst (pc' := 2) (v := 0) dX11_sample_1 (by decide) rfl ?_
    refine m_putI (pc' := 5) (ty := .int) fa_X11_sample_29 dX11_sample_2 (by decide +kernel) rfl rfl (by decide) rfl rfl rfl ?_
    refine m_iload_n (pc' := 6) dX11_sample_5 rfl rfl ?_
    refine m_if_lt (tgt := 18) (pc' := 9) dX11_sample_6 (by decide) rfl (fun h6 => ?_) (fun h6 => (h6 h1).elim)
    refine m_ldc (pc' := 20) dX11_sample_18 kc_X11_sample_111 rfl ?_
    refine m_iret dX11_sample_20 rfl rfl ⟨by decide, by decide⟩ ?_
    exact hQ _ mfr.th hM.th
  by_cases h2 : bin w 0 4 = 0
  · skip
    rw [show vSample A b w = eI from if_pos (Or.inr h2)] at hQ
    refine mC_of (by decide +kernel) ⟨_, rfl⟩ (Nat.le_of_ble_eq_true rfl) ?_
    show mM G mX11_sample 0 [some (.ref 214), some (.int b), some (.int w)] [] S1 d (0, 0) Q
    refine m_aload_n (pc' := 1) dX11_sample_0 rfl rfl ?_
    refine m_iconst (pc' := 2) (v := 0) dX11_sample_1 (by decide) rfl ?_
    refine m_putI (pc' := 5) (ty := .int) fa_X11_sample_29 dX11_sample_2 (by decide +kernel) rfl rfl (by decide) rfl rfl rfl ?_
    refine m_iload_n (pc' := 6) dX11_sample_5 rfl rfl ?_
    refine m_if_lt (tgt := 18) (pc' := 9) dX11_sample_6 (by decide) rfl (fun h6 => absurd h6 (h1)) (fun h6 => ?_)
    refine m_iload_n (pc' := 10) dX11_sample_9 rfl rfl ?_
    refine m_iconst (pc' := 11) (v := 0) dX11_sample_10 (by decide) rfl ?_
    refine m_iconst (pc' := 12) (v := 4) dX11_sample_11 (by decide) rfl ?_
    refine m_callS (pc' := 15) (A := [.int w, .int 0, .int 4]) (rest := []) cl_X11_sample_40 dX11_sample_12 rfl rfl (Nat.le_of_ble_eq_true rfl) ⟨by decide, by decide⟩ rfl rfl ?_
    refine c_in ?_
    show mM G mX11_sample 15 [some (.ref 214), some (.int b), some (.int w)] [.int (bin w 0 4)] S1 (u2 d.1 214 0 0, d.2) (0, 0) Q
    rw [show (bin w 0 4) = 0 from h2]
    refine m_if_ne (tgt := 21) (pc' := 18) dX11_sample_15 (by decide) rfl (fun h15 => absurd h15 (by decide)) (fun h15 => ?_)
    refine m_ldc (pc' := 20) dX11_sample_18 kc_X11_sample_111 rfl ?_
    refine m_iret dX11_sample_20 rfl rfl ⟨by decide, by decide⟩ ?_
    exact hQ _ mfr.th hM.th
  have hs : d.1 215 = a_s A := hM.1
  obtain ⟨n, hn32, e77⟩ := hO.g
  obtain ⟨x, hx31, rfl⟩ := nI_of h1
  obtain ⟨w, hw, rfl⟩ := bin_t (b := 4) (by decide) h2
  have hv : vSample A (nI x) (nI w) = if nI x < a_s A 77 then a_s A (94 + 5 * (n - 1 - x) + w) else eN := by unfold vSample; rw [if_neg (not_or.mpr ⟨h1, h2⟩), e77, nn_nI hx31, nn_nI (by omega), nn_nI (by omega)]
  by_cases h3 : nI x < a_s A 77
  · skip
    have hx : x < n := (nI_ltI hx31 (by omega)).mp (e77 ▸ h3)
    rw [show vSample A (nI x) (nI w) = a_s A (94 + 5 * (n - 1 - x) + w) from hv.trans (if_pos h3)] at hQ
    refine mC_of (by decide +kernel) ⟨_, rfl⟩ (Nat.le_of_ble_eq_true rfl) ?_
    show mM G mX11_sample 0 [some (.ref 214), some (.int (nI x)), some (.int (nI w))] [] S1 d (0, 0) Q
    refine m_aload_n (pc' := 1) dX11_sample_0 rfl rfl ?_
    refine m_iconst (pc' := 2) (v := 0) dX11_sample_1 (by decide) rfl ?_
    refine m_putI (pc' := 5) (ty := .int) fa_X11_sample_29 dX11_sample_2 (by decide +kernel) rfl rfl (by decide) rfl rfl rfl ?_
    refine m_iload_n (pc' := 6) dX11_sample_5 rfl rfl ?_
    refine m_if_lt (tgt := 18) (pc' := 9) dX11_sample_6 (by decide) rfl (fun h6 => absurd h6 (h1)) (fun h6 => ?_)
    refine m_iload_n (pc' := 10) dX11_sample_9 rfl rfl ?_
    refine m_iconst (pc' := 11) (v := 0) dX11_sample_10 (by decide) rfl ?_
    refine m_iconst (pc' := 12) (v := 4) dX11_sample_11 (by decide) rfl ?_
    refine m_callS (pc' := 15) (A := [.int (nI w), .int 0, .int 4]) (rest := []) cl_X11_sample_40 dX11_sample_12 rfl rfl (Nat.le_of_ble_eq_true rfl) ⟨by decide, by decide⟩ rfl rfl ?_
    refine c_in ?_
    show mM G mX11_sample 15 [some (.ref 214), some (.int (nI x)), some (.int (nI w))] [.int (bin (nI w) 0 4)] S1 (u2 d.1 214 0 0, d.2) (0, 0) Q
    rw [show (bin (nI w) 0 4) = 1 from bin_1 h2]
    refine m_if_ne (tgt := 21) (pc' := 18) dX11_sample_15 (by decide) rfl (fun h15 => ?_) (fun h15 => absurd h15 (by decide))
    refine m_iload_n (pc' := 22) dX11_sample_21 rfl rfl ?_
    refine m_aload_n (pc' := 23) dX11_sample_22 rfl rfl ?_
    refine m_getR (pc' := 26) fa_X11_sample_7 dX11_sample_23 (by decide) rfl rfl rfl rfl ?_
    refine m_bipush (pc' := 28) (v := 77) dX11_sample_26 (by decide) rfl ?_
    refine m_ialdN (pc' := 29) (j := 77) (L := 408) dX11_sample_28 (by decide) rfl rfl (rfl) (by decide) (by decide) rfl ?_
    show mM G mX11_sample 29 [some (.ref 214), some (.int (nI x)), some (.int (nI w))] [.int (d.1 215 77), .int (nI x)] S1 (u2 d.1 214 0 0, d.2) (0, 0) Q
    rw [show (d.1 215 77) = ((a_s A) 77) from congrFun hs 77]
    refine m_icmp_ge (tgt := 58) (pc' := 32) dX11_sample_29 (by decide) rfl (fun h29 => absurd h29 (Int32.not_le.mpr h3)) (fun h29 => ?_)
    refine m_aload_n (pc' := 33) dX11_sample_32 rfl rfl ?_
    refine m_getR (pc' := 36) fa_X11_sample_7 dX11_sample_33 (by decide) rfl rfl rfl rfl ?_
    refine m_bipush (pc' := 38) (v := 94) dX11_sample_36 (by decide) rfl ?_
    refine m_iconst (pc' := 39) (v := 5) dX11_sample_38 (by decide) rfl ?_
    refine m_aload_n (pc' := 40) dX11_sample_39 rfl rfl ?_
    refine m_getR (pc' := 43) fa_X11_sample_7 dX11_sample_40 (by decide) rfl rfl rfl rfl ?_
    refine m_bipush (pc' := 45) (v := 77) dX11_sample_43 (by decide) rfl ?_
    refine m_ialdN (pc' := 46) (j := 77) (L := 408) dX11_sample_45 (by decide) rfl rfl (rfl) (by decide) (by decide) rfl ?_
    show mM G mX11_sample 46 [some (.ref 214), some (.int (nI x)), some (.int (nI w))] [.int (d.1 215 77), .int 5, .int 94, .ref 215] S1 (u2 d.1 214 0 0, d.2) (0, 0) Q
    rw [show (d.1 215 77) = (nI n) from (congrFun hs 77).trans e77]
    refine m_iconst (pc' := 47) (v := 1) dX11_sample_46 (by decide) rfl ?_
    refine m_isub (pc' := 48) dX11_sample_47 rfl ?_
    rw [show ((nI n) - 1) = (nI (n - 1)) from pk_dif (b := 1) (by omega)]
    refine m_iload_n (pc' := 49) dX11_sample_48 rfl rfl ?_
    refine m_isub (pc' := 50) dX11_sample_49 rfl ?_
    rw [show ((nI (n - 1)) - (nI x)) = (nI (n - 1 - x)) from pk_dif (by omega)]
    refine m_imul (pc' := 51) dX11_sample_50 rfl ?_
    refine m_iadd (pc' := 52) dX11_sample_51 rfl ?_
    refine m_iload_n (pc' := 53) dX11_sample_52 rfl rfl ?_
    refine m_iadd (pc' := 54) dX11_sample_53 rfl ?_
    refine m_ialdN (pc' := 55) (j := 94 + 5 * (n - 1 - x) + w) (L := 408) dX11_sample_54 (by decide) rfl rfl (ix_lw _ w) (by omega) (by decide) rfl ?_
    show mM G mX11_sample 55 [some (.ref 214), some (.int (nI x)), some (.int (nI w))] [.int (d.1 215 (94 + 5 * (n - 1 - x) + w))] S1 (u2 d.1 214 0 0, d.2) (0, 0) Q
    rw [show (d.1 215 (94 + 5 * (n - 1 - x) + w)) = ((a_s A) (94 + 5 * (n - 1 - x) + w)) from congrFun hs (94 + 5 * (n - 1 - x) + w)]
    refine m_goto (tgt := 60) dX11_sample_55 (by decide) ?_
    refine m_iret dX11_sample_60 rfl rfl ⟨by decide, by decide⟩ ?_
    exact hQ _ mfr.th hM.th
  rw [show vSample A (nI x) (nI w) = eN from hv.trans (if_neg h3)] at hQ
  refine mC_of (by decide +kernel) ⟨_, rfl⟩ (Nat.le_of_ble_eq_true rfl) ?_
  show mM G mX11_sample 0 [some (.ref 214), some (.int (nI x)), some (.int (nI w))] [] S1 d (0, 0) Q
  refine m_aload_n (pc' := 1) dX11_sample_0 rfl rfl ?_
  refine m_iconst (pc' := 2) (v := 0) dX11_sample_1 (by decide) rfl ?_
  refine m_putI (pc' := 5) (ty := .int) fa_X11_sample_29 dX11_sample_2 (by decide +kernel) rfl rfl (by decide) rfl rfl rfl ?_
  refine m_iload_n (pc' := 6) dX11_sample_5 rfl rfl ?_
  refine m_if_lt (tgt := 18) (pc' := 9) dX11_sample_6 (by decide) rfl (fun h6 => absurd h6 (h1)) (fun h6 => ?_)
  refine m_iload_n (pc' := 10) dX11_sample_9 rfl rfl ?_
  refine m_iconst (pc' := 11) (v := 0) dX11_sample_10 (by decide) rfl ?_
  refine m_iconst (pc' := 12) (v := 4) dX11_sample_11 (by decide) rfl ?_
  refine m_callS (pc' := 15) (A := [.int (nI w), .int 0, .int 4]) (rest := []) cl_X11_sample_40 dX11_sample_12 rfl rfl (Nat.le_of_ble_eq_true rfl) ⟨by decide, by decide⟩ rfl rfl ?_
  refine c_in ?_
  show mM G mX11_sample 15 [some (.ref 214), some (.int (nI x)), some (.int (nI w))] [.int (bin (nI w) 0 4)] S1 (u2 d.1 214 0 0, d.2) (0, 0) Q
  rw [show (bin (nI w) 0 4) = 1 from bin_1 h2]
  refine m_if_ne (tgt := 21) (pc' := 18) dX11_sample_15 (by decide) rfl (fun h15 => ?_) (fun h15 => absurd h15 (by decide))
  refine m_iload_n (pc' := 22) dX11_sample_21 rfl rfl ?_
  refine m_aload_n (pc' := 23) dX11_sample_22 rfl rfl ?_
  refine m_getR (pc' := 26) fa_X11_sample_7 dX11_sample_23 (by decide) rfl rfl rfl rfl ?_
  refine m_bipush (pc' := 28) (v := 77) dX11_sample_26 (by decide) rfl ?_
  refine m_ialdN (pc' := 29) (j := 77) (L := 408) dX11_sample_28 (by decide) rfl rfl (rfl) (by decide) (by decide) rfl ?_
  show mM G mX11_sample 29 [some (.ref 214), some (.int (nI x)), some (.int (nI w))] [.int (d.1 215 77), .int (nI x)] S1 (u2 d.1 214 0 0, d.2) (0, 0) Q
  rw [show (d.1 215 77) = ((a_s A) 77) from congrFun hs 77]
  refine m_icmp_ge (tgt := 58) (pc' := 32) dX11_sample_29 (by decide) rfl (fun h29 => ?_) (fun h29 => (h29 (Int32.not_lt.mp h3)).elim)
  refine m_ldc (pc' := 60) dX11_sample_58 kc_X11_sample_196 rfl ?_
  refine m_iret dX11_sample_60 rfl rfl ⟨by decide, by decide⟩ ?_
  exact hQ _ mfr.th hM.th
set_option maxHeartbeats 4000000 in
set_option maxRecDepth 100000 in
theorem p_account {A : AS} {w : Int32} (hM : MM d A)  (hQ : ∀ d', mfr d d' → MM d' A → Q (some (.int (vAccount A w))) S1 d') : mC G mX11_account [.ref 214, .int w] S1 d Q := by
  by_cases h1 : bin w 0 6 = 0
  · skip
    rw [show vAccount A w = eI from if_pos h1] at hQ
    refine mC_of (by decide +kernel) ⟨_, rfl⟩ (Nat.le_of_ble_eq_true rfl) ?_
    show mM G mX11_account 0 [some (.ref 214), some (.int w)] [] S1 d (0, 0) Q
    refine m_aload_n (pc' := 1) dX11_account_0 rfl rfl ?_
    refine m_iconst (pc' := 2) (v := 0) dX11_account_1 (by decide) rfl ?_
    refine m_putI (pc' := 5) (ty := .int) fa_X11_account_29 dX11_account_2 (by decide +kernel) rfl rfl (by decide) rfl rfl rfl ?_
    refine m_iload_n (pc' := 6) dX11_account_5 rfl rfl ?_
    refine m_iconst (pc' := 7) (v := 0) dX11_account_6 (by decide) rfl ?_
    refine m_bipush (pc' := 9) (v := 6) dX11_account_7 (by decide) rfl ?_
    refine m_callS (pc' := 12) (A := [.int w, .int 0, .int 6]) (rest := []) cl_X11_account_40 dX11_account_9 rfl rfl (Nat.le_of_ble_eq_true rfl) ⟨by decide, by decide⟩ rfl rfl ?_
    refine c_in ?_
    show mM G mX11_account 12 [some (.ref 214), some (.int w)] [.int (bin w 0 6)] S1 (u2 d.1 214 0 0, d.2) (0, 0) Q
    rw [show (bin w 0 6) = 0 from h1]
    refine m_if_ne (tgt := 18) (pc' := 15) dX11_account_12 (by decide) rfl (fun h12 => absurd h12 (by decide)) (fun h12 => ?_)
    refine m_ldc (pc' := 17) dX11_account_15 kc_X11_account_111 rfl ?_
    refine m_iret dX11_account_17 rfl rfl ⟨by decide, by decide⟩ ?_
    exact hQ _ mfr.th hM.th
  have hs : d.1 215 = a_s A := hM.1
  obtain ⟨w, hw, rfl⟩ := bin_t (b := 6) (by decide) h1
  by_cases h2 : w < 6
  · skip
    have h3 : nI w < 6 := (nI_ltI (b := 6) (by omega) (by decide)).mpr h2
    rw [show vAccount A (nI w) = a_s A (88 + w) from by unfold vAccount; rw [if_neg h1, if_pos h3, nn_nI (by omega)]] at hQ
    refine mC_of (by decide +kernel) ⟨_, rfl⟩ (Nat.le_of_ble_eq_true rfl) ?_
    show mM G mX11_account 0 [some (.ref 214), some (.int (nI w))] [] S1 d (0, 0) Q
    refine m_aload_n (pc' := 1) dX11_account_0 rfl rfl ?_
    refine m_iconst (pc' := 2) (v := 0) dX11_account_1 (by decide) rfl ?_
    refine m_putI (pc' := 5) (ty := .int) fa_X11_account_29 dX11_account_2 (by decide +kernel) rfl rfl (by decide) rfl rfl rfl ?_
    refine m_iload_n (pc' := 6) dX11_account_5 rfl rfl ?_
    refine m_iconst (pc' := 7) (v := 0) dX11_account_6 (by decide) rfl ?_
    refine m_bipush (pc' := 9) (v := 6) dX11_account_7 (by decide) rfl ?_
    refine m_callS (pc' := 12) (A := [.int (nI w), .int 0, .int 6]) (rest := []) cl_X11_account_40 dX11_account_9 rfl rfl (Nat.le_of_ble_eq_true rfl) ⟨by decide, by decide⟩ rfl rfl ?_
    refine c_in ?_
    show mM G mX11_account 12 [some (.ref 214), some (.int (nI w))] [.int (bin (nI w) 0 6)] S1 (u2 d.1 214 0 0, d.2) (0, 0) Q
    rw [show (bin (nI w) 0 6) = 1 from bin_1 h1]
    refine m_if_ne (tgt := 18) (pc' := 15) dX11_account_12 (by decide) rfl (fun h12 => ?_) (fun h12 => absurd h12 (by decide))
    refine m_iload_n (pc' := 19) dX11_account_18 rfl rfl ?_
    refine m_bipush (pc' := 21) (v := 6) dX11_account_19 (by decide) rfl ?_
    refine m_icmp_ge (tgt := 36) (pc' := 24) dX11_account_21 (by decide) rfl (fun h21 => absurd h21 (Int32.not_le.mpr h3)) (fun h21 => ?_)
    refine m_aload_n (pc' := 25) dX11_account_24 rfl rfl ?_
    refine m_getR (pc' := 28) fa_X11_account_7 dX11_account_25 (by decide) rfl rfl rfl rfl ?_
    refine m_bipush (pc' := 30) (v := 88) dX11_account_28 (by decide) rfl ?_
    refine m_iload_n (pc' := 31) dX11_account_30 rfl rfl ?_
    refine m_iadd (pc' := 32) dX11_account_31 rfl ?_
    refine m_ialdN (pc' := 33) (j := 88 + w) (L := 408) dX11_account_32 (by decide) rfl rfl (nI_add 88 w) (by omega) (by decide) rfl ?_
    show mM G mX11_account 33 [some (.ref 214), some (.int (nI w))] [.int (d.1 215 (88 + w))] S1 (u2 d.1 214 0 0, d.2) (0, 0) Q
    rw [show (d.1 215 (88 + w)) = ((a_s A) (88 + w)) from congrFun hs (88 + w)]
    refine m_goto (tgt := 67) dX11_account_33 (by decide) ?_
    refine m_iret dX11_account_67 rfl rfl ⟨by decide, by decide⟩ ?_
    exact hQ _ mfr.th hM.th
  obtain rfl : w = 6 := by omega
  rw [show vAccount A (nI 6) = a_s A 88 + a_s A 89 + a_s A 90 + a_s A 91 from by unfold vAccount; rw [if_neg h1, if_neg (by decide)]] at hQ
  refine mC_of (by decide +kernel) ⟨_, rfl⟩ (Nat.le_of_ble_eq_true rfl) ?_
  show mM G mX11_account 0 [some (.ref 214), some (.int 6)] [] S1 d (0, 0) Q
  refine m_aload_n (pc' := 1) dX11_account_0 rfl rfl ?_
  refine m_iconst (pc' := 2) (v := 0) dX11_account_1 (by decide) rfl ?_
  refine m_putI (pc' := 5) (ty := .int) fa_X11_account_29 dX11_account_2 (by decide +kernel) rfl rfl (by decide) rfl rfl rfl ?_
  refine m_iload_n (pc' := 6) dX11_account_5 rfl rfl ?_
  refine m_iconst (pc' := 7) (v := 0) dX11_account_6 (by decide) rfl ?_
  refine m_bipush (pc' := 9) (v := 6) dX11_account_7 (by decide) rfl ?_
  refine m_callS (pc' := 12) (A := [.int 6, .int 0, .int 6]) (rest := []) cl_X11_account_40 dX11_account_9 rfl rfl (Nat.le_of_ble_eq_true rfl) ⟨by decide, by decide⟩ rfl rfl ?_
  refine c_in ?_
  show mM G mX11_account 12 [some (.ref 214), some (.int 6)] [.int (bin 6 0 6)] S1 (u2 d.1 214 0 0, d.2) (0, 0) Q
  rw [show (bin 6 0 6) = 1 from rfl]
  refine m_if_ne (tgt := 18) (pc' := 15) dX11_account_12 (by decide) rfl (fun h12 => ?_) (fun h12 => absurd h12 (by decide))
  refine m_iload_n (pc' := 19) dX11_account_18 rfl rfl ?_
  refine m_bipush (pc' := 21) (v := 6) dX11_account_19 (by decide) rfl ?_
  refine m_icmp_ge (tgt := 36) (pc' := 24) dX11_account_21 (by decide) rfl (fun h21 => ?_) (fun h21 => absurd h21 (by decide))
  refine m_aload_n (pc' := 37) dX11_account_36 rfl rfl ?_
  refine m_getR (pc' := 40) fa_X11_account_7 dX11_account_37 (by decide) rfl rfl rfl rfl ?_
  refine m_bipush (pc' := 42) (v := 88) dX11_account_40 (by decide) rfl ?_
  refine m_ialdN (pc' := 43) (j := 88) (L := 408) dX11_account_42 (by decide) rfl rfl (rfl) (by decide) (by decide) rfl ?_
  show mM G mX11_account 43 [some (.ref 214), some (.int 6)] [.int (d.1 215 88)] S1 (u2 d.1 214 0 0, d.2) (0, 0) Q
  rw [show (d.1 215 88) = ((a_s A) 88) from congrFun hs 88]
  refine m_aload_n (pc' := 44) dX11_account_43 rfl rfl ?_
  refine m_getR (pc' := 47) fa_X11_account_7 dX11_account_44 (by decide) rfl rfl rfl rfl ?_
  refine m_bipush (pc' := 49) (v := 89) dX11_account_47 (by decide) rfl ?_
  refine m_ialdN (pc' := 50) (j := 89) (L := 408) dX11_account_49 (by decide) rfl rfl (rfl) (by decide) (by decide) rfl ?_
  show mM G mX11_account 50 [some (.ref 214), some (.int 6)] [.int (d.1 215 89), .int ((a_s A) 88)] S1 (u2 d.1 214 0 0, d.2) (0, 0) Q
  rw [show (d.1 215 89) = ((a_s A) 89) from congrFun hs 89]
  refine m_iadd (pc' := 51) dX11_account_50 rfl ?_
  refine m_aload_n (pc' := 52) dX11_account_51 rfl rfl ?_
  refine m_getR (pc' := 55) fa_X11_account_7 dX11_account_52 (by decide) rfl rfl rfl rfl ?_
  refine m_bipush (pc' := 57) (v := 90) dX11_account_55 (by decide) rfl ?_
  refine m_ialdN (pc' := 58) (j := 90) (L := 408) dX11_account_57 (by decide) rfl rfl (rfl) (by decide) (by decide) rfl ?_
  show mM G mX11_account 58 [some (.ref 214), some (.int 6)] [.int (d.1 215 90), .int (((a_s A) 88) + ((a_s A) 89))] S1 (u2 d.1 214 0 0, d.2) (0, 0) Q
  rw [show (d.1 215 90) = ((a_s A) 90) from congrFun hs 90]
  refine m_iadd (pc' := 59) dX11_account_58 rfl ?_
  refine m_aload_n (pc' := 60) dX11_account_59 rfl rfl ?_
  refine m_getR (pc' := 63) fa_X11_account_7 dX11_account_60 (by decide) rfl rfl rfl rfl ?_
  refine m_bipush (pc' := 65) (v := 91) dX11_account_63 (by decide) rfl ?_
  refine m_ialdN (pc' := 66) (j := 91) (L := 408) dX11_account_65 (by decide) rfl rfl (rfl) (by decide) (by decide) rfl ?_
  show mM G mX11_account 66 [some (.ref 214), some (.int 6)] [.int (d.1 215 91), .int ((((a_s A) 88) + ((a_s A) 89)) + ((a_s A) 90))] S1 (u2 d.1 214 0 0, d.2) (0, 0) Q
  rw [show (d.1 215 91) = ((a_s A) 91) from congrFun hs 91]
  refine m_iadd (pc' := 67) dX11_account_66 rfl ?_
  refine m_iret dX11_account_67 rfl rfl ⟨by decide, by decide⟩ ?_
  exact hQ _ mfr.th hM.th
set_option maxHeartbeats 4000000 in
set_option maxRecDepth 100000 in
theorem p_held0 {A : AS}  (hM : MM d A)  (hQ : ∀ d', mfr d d' → MM d' A → Q (some (.int (vHeld A 0))) S1 d') : mC G mX11_held [.ref 214, .int 0] S1 d Q := by
  have hs : d.1 215 = a_s A := hM.1
  rw [show vHeld A 0 = FP.f2i (a_h A) from by unfold vHeld; rw [if_neg (by decide), if_pos rfl]] at hQ
  refine mC_of (by decide +kernel) ⟨_, rfl⟩ (Nat.le_of_ble_eq_true rfl) ?_
  show mM G mX11_held 0 [some (.ref 214), some (.int 0)] [] S1 d (0, 0) Q
  refine m_aload_n (pc' := 1) dX11_held_0 rfl rfl ?_
  refine m_iconst (pc' := 2) (v := 0) dX11_held_1 (by decide) rfl ?_
  refine m_putI (pc' := 5) (ty := .int) fa_X11_held_29 dX11_held_2 (by decide +kernel) rfl rfl (by decide) rfl rfl rfl ?_
  refine m_iload_n (pc' := 6) dX11_held_5 rfl rfl ?_
  refine m_iconst (pc' := 7) (v := 0) dX11_held_6 (by decide) rfl ?_
  refine m_iconst (pc' := 8) (v := 2) dX11_held_7 (by decide) rfl ?_
  refine m_callS (pc' := 11) (A := [.int 0, .int 0, .int 2]) (rest := []) cl_X11_held_40 dX11_held_8 rfl rfl (Nat.le_of_ble_eq_true rfl) ⟨by decide, by decide⟩ rfl rfl ?_
  refine c_in ?_
  show mM G mX11_held 11 [some (.ref 214), some (.int 0)] [.int (bin 0 0 2)] S1 (u2 d.1 214 0 0, d.2) (0, 0) Q
  rw [show (bin 0 0 2) = 1 from rfl]
  refine m_if_ne (tgt := 17) (pc' := 14) dX11_held_11 (by decide) rfl (fun h11 => ?_) (fun h11 => absurd h11 (by decide))
  refine m_iload_n (pc' := 18) dX11_held_17 rfl rfl ?_
  refine m_if_ne (tgt := 29) (pc' := 21) dX11_held_18 (by decide) rfl (fun h18 => absurd h18 (by decide)) (fun h18 => ?_)
  refine m_aload_n (pc' := 22) dX11_held_21 rfl rfl ?_
  refine m_getF (pc' := 25) fa_X11_held_36 dX11_held_22 (by decide) rfl rfl rfl ?_
  show mM G mX11_held 25 [some (.ref 214), some (.int 0)] [.float (d.2 214 6)] S1 (u2 d.1 214 0 0, d.2) (0, 0) Q
  rw [show (d.2 214 6) = (a_h A) from hM.2.2.2.2.2.1]
  refine m_f2i (pc' := 26) dX11_held_25 rfl ?_
  refine m_goto (tgt := 53) dX11_held_26 (by decide) ?_
  refine m_iret dX11_held_53 rfl rfl ⟨by decide, by decide⟩ ?_
  exact hQ _ mfr.th hM.th
set_option maxHeartbeats 4000000 in
set_option maxRecDepth 100000 in
theorem p_held1 {A : AS}  (hM : MM d A)  (hQ : ∀ d', mfr d d' → MM d' A → Q (some (.int (vHeld A 1))) S1 d') : mC G mX11_held [.ref 214, .int 1] S1 d Q := by
  have hs : d.1 215 = a_s A := hM.1
  rw [show vHeld A 1 = rdb (a_h A) (a_s A 41) (a_s A 42) from by unfold vHeld; rw [if_neg (by decide), if_neg (by decide), if_pos rfl]] at hQ
  refine mC_of (by decide +kernel) ⟨_, rfl⟩ (Nat.le_of_ble_eq_true rfl) ?_
  show mM G mX11_held 0 [some (.ref 214), some (.int 1)] [] S1 d (0, 0) Q
  refine m_aload_n (pc' := 1) dX11_held_0 rfl rfl ?_
  refine m_iconst (pc' := 2) (v := 0) dX11_held_1 (by decide) rfl ?_
  refine m_putI (pc' := 5) (ty := .int) fa_X11_held_29 dX11_held_2 (by decide +kernel) rfl rfl (by decide) rfl rfl rfl ?_
  refine m_iload_n (pc' := 6) dX11_held_5 rfl rfl ?_
  refine m_iconst (pc' := 7) (v := 0) dX11_held_6 (by decide) rfl ?_
  refine m_iconst (pc' := 8) (v := 2) dX11_held_7 (by decide) rfl ?_
  refine m_callS (pc' := 11) (A := [.int 1, .int 0, .int 2]) (rest := []) cl_X11_held_40 dX11_held_8 rfl rfl (Nat.le_of_ble_eq_true rfl) ⟨by decide, by decide⟩ rfl rfl ?_
  refine c_in ?_
  show mM G mX11_held 11 [some (.ref 214), some (.int 1)] [.int (bin 1 0 2)] S1 (u2 d.1 214 0 0, d.2) (0, 0) Q
  rw [show (bin 1 0 2) = 1 from rfl]
  refine m_if_ne (tgt := 17) (pc' := 14) dX11_held_11 (by decide) rfl (fun h11 => ?_) (fun h11 => absurd h11 (by decide))
  refine m_iload_n (pc' := 18) dX11_held_17 rfl rfl ?_
  refine m_if_ne (tgt := 29) (pc' := 21) dX11_held_18 (by decide) rfl (fun h18 => ?_) (fun h18 => absurd h18 (by decide))
  refine m_iload_n (pc' := 30) dX11_held_29 rfl rfl ?_
  refine m_iconst (pc' := 31) (v := 1) dX11_held_30 (by decide) rfl ?_
  refine m_icmp_ne (tgt := 45) (pc' := 34) dX11_held_31 (by decide) rfl (fun h31 => absurd h31 (by decide)) (fun h31 => ?_)
  refine m_aload_n (pc' := 35) dX11_held_34 rfl rfl ?_
  refine m_aload_n (pc' := 36) dX11_held_35 rfl rfl ?_
  refine m_getF (pc' := 39) fa_X11_held_36 dX11_held_36 (by decide) rfl rfl rfl ?_
  show mM G mX11_held 39 [some (.ref 214), some (.int 1)] [.float (d.2 214 6), .ref 214] S1 (u2 d.1 214 0 0, d.2) (0, 0) Q
  rw [show (d.2 214 6) = (a_h A) from hM.2.2.2.2.2.1]
  refine m_callV (pc' := 42) (A := [.float (a_h A)]) (rest := []) (b := 214) cl_X11_held_73 dX11_held_39 rfl rfl (Nat.le_of_ble_eq_true rfl) ⟨by decide, by decide⟩ (by decide) rfl rfl rfl rfl ?_
  refine c_mreading (s := a_s A) hs ?_
  show mM G mX11_held 42 [some (.ref 214), some (.int 1)] [.int (rdb (a_h A) ((a_s A) 41) ((a_s A) 42))] S1 (u2 d.1 214 0 0, d.2) (0, 0) Q
  refine m_goto (tgt := 53) dX11_held_42 (by decide) ?_
  refine m_iret dX11_held_53 rfl rfl ⟨by decide, by decide⟩ ?_
  exact hQ _ mfr.th hM.th
set_option maxHeartbeats 4000000 in
set_option maxRecDepth 100000 in
theorem p_held2 {A : AS}  (hM : MM d A)  (hQ : ∀ d', mfr d d' → MM d' A → Q (some (.int (vHeld A 2))) S1 d') : mC G mX11_held [.ref 214, .int 2] S1 d Q := by
  have hs : d.1 215 = a_s A := hM.1
  rw [show vHeld A 2 = FP.f2i (FP.fmul (a_h A) 1132462080) from by unfold vHeld; rw [if_neg (by decide), if_neg (by decide), if_neg (by decide)]] at hQ
  refine mC_of (by decide +kernel) ⟨_, rfl⟩ (Nat.le_of_ble_eq_true rfl) ?_
  show mM G mX11_held 0 [some (.ref 214), some (.int 2)] [] S1 d (0, 0) Q
  refine m_aload_n (pc' := 1) dX11_held_0 rfl rfl ?_
  refine m_iconst (pc' := 2) (v := 0) dX11_held_1 (by decide) rfl ?_
  refine m_putI (pc' := 5) (ty := .int) fa_X11_held_29 dX11_held_2 (by decide +kernel) rfl rfl (by decide) rfl rfl rfl ?_
  refine m_iload_n (pc' := 6) dX11_held_5 rfl rfl ?_
  refine m_iconst (pc' := 7) (v := 0) dX11_held_6 (by decide) rfl ?_
  refine m_iconst (pc' := 8) (v := 2) dX11_held_7 (by decide) rfl ?_
  refine m_callS (pc' := 11) (A := [.int 2, .int 0, .int 2]) (rest := []) cl_X11_held_40 dX11_held_8 rfl rfl (Nat.le_of_ble_eq_true rfl) ⟨by decide, by decide⟩ rfl rfl ?_
  refine c_in ?_
  show mM G mX11_held 11 [some (.ref 214), some (.int 2)] [.int (bin 2 0 2)] S1 (u2 d.1 214 0 0, d.2) (0, 0) Q
  rw [show (bin 2 0 2) = 1 from rfl]
  refine m_if_ne (tgt := 17) (pc' := 14) dX11_held_11 (by decide) rfl (fun h11 => ?_) (fun h11 => absurd h11 (by decide))
  refine m_iload_n (pc' := 18) dX11_held_17 rfl rfl ?_
  refine m_if_ne (tgt := 29) (pc' := 21) dX11_held_18 (by decide) rfl (fun h18 => ?_) (fun h18 => absurd h18 (by decide))
  refine m_iload_n (pc' := 30) dX11_held_29 rfl rfl ?_
  refine m_iconst (pc' := 31) (v := 1) dX11_held_30 (by decide) rfl ?_
  refine m_icmp_ne (tgt := 45) (pc' := 34) dX11_held_31 (by decide) rfl (fun h31 => ?_) (fun h31 => absurd h31 (by decide))
  refine m_aload_n (pc' := 46) dX11_held_45 rfl rfl ?_
  refine m_getF (pc' := 49) fa_X11_held_36 dX11_held_46 (by decide) rfl rfl rfl ?_
  show mM G mX11_held 49 [some (.ref 214), some (.int 2)] [.float (d.2 214 6)] S1 (u2 d.1 214 0 0, d.2) (0, 0) Q
  rw [show (d.2 214 6) = (a_h A) from hM.2.2.2.2.2.1]
  refine m_ldcf (pc' := 51) dX11_held_49 kc_X11_held_203 rfl ?_
  refine m_fmul (pc' := 52) dX11_held_51 rfl ?_
  refine m_f2i (pc' := 53) dX11_held_52 rfl ?_
  refine m_iret dX11_held_53 rfl rfl ⟨by decide, by decide⟩ ?_
  exact hQ _ mfr.th hM.th
set_option maxHeartbeats 4000000 in
set_option maxRecDepth 100000 in
theorem p_heldX {A : AS} {w : Int32} (hM : MM d A) (h1 : bin w 0 2 = 0) (hQ : ∀ d', mfr d d' → MM d' A → Q (some (.int (vHeld A w))) S1 d') : mC G mX11_held [.ref 214, .int w] S1 d Q := by
  rw [show vHeld A w = eI from if_pos h1] at hQ
  refine mC_of (by decide +kernel) ⟨_, rfl⟩ (Nat.le_of_ble_eq_true rfl) ?_
  show mM G mX11_held 0 [some (.ref 214), some (.int w)] [] S1 d (0, 0) Q
  refine m_aload_n (pc' := 1) dX11_held_0 rfl rfl ?_
  refine m_iconst (pc' := 2) (v := 0) dX11_held_1 (by decide) rfl ?_
  refine m_putI (pc' := 5) (ty := .int) fa_X11_held_29 dX11_held_2 (by decide +kernel) rfl rfl (by decide) rfl rfl rfl ?_
  refine m_iload_n (pc' := 6) dX11_held_5 rfl rfl ?_
  refine m_iconst (pc' := 7) (v := 0) dX11_held_6 (by decide) rfl ?_
  refine m_iconst (pc' := 8) (v := 2) dX11_held_7 (by decide) rfl ?_
  refine m_callS (pc' := 11) (A := [.int w, .int 0, .int 2]) (rest := []) cl_X11_held_40 dX11_held_8 rfl rfl (Nat.le_of_ble_eq_true rfl) ⟨by decide, by decide⟩ rfl rfl ?_
  refine c_in ?_
  show mM G mX11_held 11 [some (.ref 214), some (.int w)] [.int (bin w 0 2)] S1 (u2 d.1 214 0 0, d.2) (0, 0) Q
  rw [show (bin w 0 2) = 0 from h1]
  refine m_if_ne (tgt := 17) (pc' := 14) dX11_held_11 (by decide) rfl (fun h11 => absurd h11 (by decide)) (fun h11 => ?_)
  refine m_ldc (pc' := 16) dX11_held_14 kc_X11_held_111 rfl ?_
  refine m_iret dX11_held_16 rfl rfl ⟨by decide, by decide⟩ ?_
  exact hQ _ mfr.th hM.th
theorem p_held {A : AS} {w : Int32} (hM : MM d A) (hQ : ∀ d', mfr d d' → MM d' A → Q (some (.int (vHeld A w))) S1 d') : mC G mX11_held [.ref 214, .int w] S1 d Q := by
  by_cases h1 : bin w 0 2 = 0
  · exact p_heldX hM h1 hQ
  obtain ⟨w, hw, rfl⟩ := bin_t (b := 2) (by decide) h1
  rcases (show w = 0 ∨ w = 1 ∨ w = 2 by omega) with rfl | rfl | rfl
  · exact p_held0 hM hQ
  · exact p_held1 hM hQ
  · exact p_held2 hM hQ
set_option maxHeartbeats 4000000 in
set_option maxRecDepth 100000 in
theorem p_would0 {A : AS} {e : Int32} (hM : MM d A) (hO : OK A) (hQ : ∀ d', mfr d d' → MM d' A → Q (some (.int (vWould A e 0))) S1 d') : mC G mX11_would [.ref 214, .int e, .int 0] S1 d Q := by
  have hs : d.1 215 = a_s A := hM.1
  by_cases h1 : bin e 0 (a_s A 43 - 1) = 0
  · skip
    rw [show vWould A e 0 = eI from if_pos (Or.inl h1)] at hQ
    refine mC_of (by decide +kernel) ⟨_, rfl⟩ (Nat.le_of_ble_eq_true rfl) ?_
    show mM G mX11_would 0 [some (.ref 214), some (.int e), some (.int 0)] [] S1 d (0, 0) Q
    refine m_aload_n (pc' := 1) dX11_would_0 rfl rfl ?_
    refine m_iconst (pc' := 2) (v := 0) dX11_would_1 (by decide) rfl ?_
    refine m_putI (pc' := 5) (ty := .int) fa_X11_would_29 dX11_would_2 (by decide +kernel) rfl rfl (by decide) rfl rfl rfl ?_
    refine m_aload_n (pc' := 6) dX11_would_5 rfl rfl ?_
    refine m_iload_n (pc' := 7) dX11_would_6 rfl rfl ?_
    refine m_callV (pc' := 10) (A := [.int e]) (rest := []) (b := 214) cl_X11_would_127 dX11_would_7 rfl rfl (Nat.le_of_ble_eq_true rfl) ⟨by decide, by decide⟩ (by decide) rfl rfl rfl rfl ?_
    refine c_ment (s := a_s A) hs ?_
    show mM G mX11_would 10 [some (.ref 214), some (.int e), some (.int 0)] [.int (bin e 0 ((a_s A) 43 - 1))] S1 (u2 d.1 214 0 0, d.2) (0, 0) Q
    rw [show (bin e 0 ((a_s A) 43 - 1)) = 0 from h1]
    refine m_if_eq (tgt := 22) (pc' := 13) dX11_would_10 (by decide) rfl (fun h10 => ?_) (fun h10 => absurd h10 (by decide))
    refine m_ldc (pc' := 24) dX11_would_22 kc_X11_would_111 rfl ?_
    refine m_iret dX11_would_24 rfl rfl ⟨by decide, by decide⟩ ?_
    exact hQ _ mfr.th hM.th
  obtain ⟨n, hl⟩ := hO.l
  have e43 := hl.2.1
  have hn16 := hl.1
  obtain ⟨t0, ht0, et76⟩ := hO.t
  have hc := hO.c
  have ett : nn (a_s A 76) = t0 := by rw [et76]; exact nn_nI (by omega)
  obtain ⟨e, hen, rfl⟩ := bin_e (n := n) (by omega) (by rw [← e43]; exact h1)
  rw [show vWould A (nI e) 0 = er (a_s A) t0 (a_h A) e from by unfold vWould; rw [if_neg (not_or.mpr ⟨h1, by decide⟩), ett, nn_nI (by omega), if_pos rfl]] at hQ
  refine mC_of (by decide +kernel) ⟨_, rfl⟩ (Nat.le_of_ble_eq_true rfl) ?_
  show mM G mX11_would 0 [some (.ref 214), some (.int (nI e)), some (.int 0)] [] S1 d (0, 0) Q
  refine m_aload_n (pc' := 1) dX11_would_0 rfl rfl ?_
  refine m_iconst (pc' := 2) (v := 0) dX11_would_1 (by decide) rfl ?_
  refine m_putI (pc' := 5) (ty := .int) fa_X11_would_29 dX11_would_2 (by decide +kernel) rfl rfl (by decide) rfl rfl rfl ?_
  refine m_aload_n (pc' := 6) dX11_would_5 rfl rfl ?_
  refine m_iload_n (pc' := 7) dX11_would_6 rfl rfl ?_
  refine m_callV (pc' := 10) (A := [.int (nI e)]) (rest := []) (b := 214) cl_X11_would_127 dX11_would_7 rfl rfl (Nat.le_of_ble_eq_true rfl) ⟨by decide, by decide⟩ (by decide) rfl rfl rfl rfl ?_
  refine c_ment (s := a_s A) hs ?_
  show mM G mX11_would 10 [some (.ref 214), some (.int (nI e)), some (.int 0)] [.int (bin (nI e) 0 ((a_s A) 43 - 1))] S1 (u2 d.1 214 0 0, d.2) (0, 0) Q
  rw [show (bin (nI e) 0 ((a_s A) 43 - 1)) = 1 from bin_1 h1]
  refine m_if_eq (tgt := 22) (pc' := 13) dX11_would_10 (by decide) rfl (fun h10 => absurd h10 (by decide)) (fun h10 => ?_)
  refine m_iload_n (pc' := 14) dX11_would_13 rfl rfl ?_
  refine m_iconst (pc' := 15) (v := 0) dX11_would_14 (by decide) rfl ?_
  refine m_iconst (pc' := 16) (v := 2) dX11_would_15 (by decide) rfl ?_
  refine m_callS (pc' := 19) (A := [.int 0, .int 0, .int 2]) (rest := []) cl_X11_would_40 dX11_would_16 rfl rfl (Nat.le_of_ble_eq_true rfl) ⟨by decide, by decide⟩ rfl rfl ?_
  refine c_in ?_
  show mM G mX11_would 19 [some (.ref 214), some (.int (nI e)), some (.int 0)] [.int (bin 0 0 2)] S1 (u2 d.1 214 0 0, d.2) (0, 0) Q
  rw [show (bin 0 0 2) = 1 from rfl]
  refine m_if_ne (tgt := 25) (pc' := 22) dX11_would_19 (by decide) rfl (fun h19 => ?_) (fun h19 => absurd h19 (by decide))
  refine m_aload_n (pc' := 26) dX11_would_25 rfl rfl ?_
  refine m_iload_n (pc' := 27) dX11_would_26 rfl rfl ?_
  refine m_callV (pc' := 30) (A := [.int (nI e)]) (rest := []) (b := 214) cl_X11_would_204 dX11_would_27 rfl rfl (Nat.le_of_ble_eq_true rfl) ⟨by decide, by decide⟩ (by decide) rfl rfl rfl rfl ?_
  refine c_mcoTo (e := e) (h0 := a_h A) (s := a_s A) hs hc hl et76 (by omega) hen hM.2.2.2.2.2.1 (fun f f0 f10 f9 f11 f12 f13 => ?_)
  show mM G mX11_would 30 [some (.ref 214), some (.int (nI e)), some (.int 0)] [] S1 f (0, 0) Q
  have hs := f0.s hs
  refine m_iload_n (pc' := 31) dX11_would_30 rfl rfl ?_
  refine m_if_ne (tgt := 41) (pc' := 34) dX11_would_31 (by decide) rfl (fun h31 => absurd h31 (by decide)) (fun h31 => ?_)
  refine m_aload_n (pc' := 35) dX11_would_34 rfl rfl ?_
  refine m_getI (pc' := 38) fa_X11_would_77 dX11_would_35 (by decide) rfl rfl rfl ?_
  rw [show (f.1 214 11) = (er (a_s A) t0 (a_h A) e) from f11]
  refine m_goto (tgt := 57) dX11_would_38 (by decide) ?_
  refine m_iret dX11_would_57 rfl rfl ⟨by decide, by decide⟩ ?_
  exact hQ f (mfr.th.trans (sim_mf f0)) (hM.th.sim f0)
set_option maxHeartbeats 4000000 in
set_option maxRecDepth 100000 in
theorem p_would1 {A : AS} {e : Int32} (hM : MM d A) (hO : OK A) (hQ : ∀ d', mfr d d' → MM d' A → Q (some (.int (vWould A e 1))) S1 d') : mC G mX11_would [.ref 214, .int e, .int 1] S1 d Q := by
  have hs : d.1 215 = a_s A := hM.1
  by_cases h1 : bin e 0 (a_s A 43 - 1) = 0
  · skip
    rw [show vWould A e 1 = eI from if_pos (Or.inl h1)] at hQ
    refine mC_of (by decide +kernel) ⟨_, rfl⟩ (Nat.le_of_ble_eq_true rfl) ?_
    show mM G mX11_would 0 [some (.ref 214), some (.int e), some (.int 1)] [] S1 d (0, 0) Q
    refine m_aload_n (pc' := 1) dX11_would_0 rfl rfl ?_
    refine m_iconst (pc' := 2) (v := 0) dX11_would_1 (by decide) rfl ?_
    refine m_putI (pc' := 5) (ty := .int) fa_X11_would_29 dX11_would_2 (by decide +kernel) rfl rfl (by decide) rfl rfl rfl ?_
    refine m_aload_n (pc' := 6) dX11_would_5 rfl rfl ?_
    refine m_iload_n (pc' := 7) dX11_would_6 rfl rfl ?_
    refine m_callV (pc' := 10) (A := [.int e]) (rest := []) (b := 214) cl_X11_would_127 dX11_would_7 rfl rfl (Nat.le_of_ble_eq_true rfl) ⟨by decide, by decide⟩ (by decide) rfl rfl rfl rfl ?_
    refine c_ment (s := a_s A) hs ?_
    show mM G mX11_would 10 [some (.ref 214), some (.int e), some (.int 1)] [.int (bin e 0 ((a_s A) 43 - 1))] S1 (u2 d.1 214 0 0, d.2) (0, 0) Q
    rw [show (bin e 0 ((a_s A) 43 - 1)) = 0 from h1]
    refine m_if_eq (tgt := 22) (pc' := 13) dX11_would_10 (by decide) rfl (fun h10 => ?_) (fun h10 => absurd h10 (by decide))
    refine m_ldc (pc' := 24) dX11_would_22 kc_X11_would_111 rfl ?_
    refine m_iret dX11_would_24 rfl rfl ⟨by decide, by decide⟩ ?_
    exact hQ _ mfr.th hM.th
  obtain ⟨n, hl⟩ := hO.l
  have e43 := hl.2.1
  have hn16 := hl.1
  obtain ⟨t0, ht0, et76⟩ := hO.t
  have hc := hO.c
  have ett : nn (a_s A 76) = t0 := by rw [et76]; exact nn_nI (by omega)
  obtain ⟨e, hen, rfl⟩ := bin_e (n := n) (by omega) (by rw [← e43]; exact h1)
  rw [show vWould A (nI e) 1 = ec (a_s A) t0 (a_h A) e from by unfold vWould; rw [if_neg (not_or.mpr ⟨h1, by decide⟩), ett, nn_nI (by omega), if_neg (by decide), if_pos rfl]] at hQ
  refine mC_of (by decide +kernel) ⟨_, rfl⟩ (Nat.le_of_ble_eq_true rfl) ?_
  show mM G mX11_would 0 [some (.ref 214), some (.int (nI e)), some (.int 1)] [] S1 d (0, 0) Q
  refine m_aload_n (pc' := 1) dX11_would_0 rfl rfl ?_
  refine m_iconst (pc' := 2) (v := 0) dX11_would_1 (by decide) rfl ?_
  refine m_putI (pc' := 5) (ty := .int) fa_X11_would_29 dX11_would_2 (by decide +kernel) rfl rfl (by decide) rfl rfl rfl ?_
  refine m_aload_n (pc' := 6) dX11_would_5 rfl rfl ?_
  refine m_iload_n (pc' := 7) dX11_would_6 rfl rfl ?_
  refine m_callV (pc' := 10) (A := [.int (nI e)]) (rest := []) (b := 214) cl_X11_would_127 dX11_would_7 rfl rfl (Nat.le_of_ble_eq_true rfl) ⟨by decide, by decide⟩ (by decide) rfl rfl rfl rfl ?_
  refine c_ment (s := a_s A) hs ?_
  show mM G mX11_would 10 [some (.ref 214), some (.int (nI e)), some (.int 1)] [.int (bin (nI e) 0 ((a_s A) 43 - 1))] S1 (u2 d.1 214 0 0, d.2) (0, 0) Q
  rw [show (bin (nI e) 0 ((a_s A) 43 - 1)) = 1 from bin_1 h1]
  refine m_if_eq (tgt := 22) (pc' := 13) dX11_would_10 (by decide) rfl (fun h10 => absurd h10 (by decide)) (fun h10 => ?_)
  refine m_iload_n (pc' := 14) dX11_would_13 rfl rfl ?_
  refine m_iconst (pc' := 15) (v := 0) dX11_would_14 (by decide) rfl ?_
  refine m_iconst (pc' := 16) (v := 2) dX11_would_15 (by decide) rfl ?_
  refine m_callS (pc' := 19) (A := [.int 1, .int 0, .int 2]) (rest := []) cl_X11_would_40 dX11_would_16 rfl rfl (Nat.le_of_ble_eq_true rfl) ⟨by decide, by decide⟩ rfl rfl ?_
  refine c_in ?_
  show mM G mX11_would 19 [some (.ref 214), some (.int (nI e)), some (.int 1)] [.int (bin 1 0 2)] S1 (u2 d.1 214 0 0, d.2) (0, 0) Q
  rw [show (bin 1 0 2) = 1 from rfl]
  refine m_if_ne (tgt := 25) (pc' := 22) dX11_would_19 (by decide) rfl (fun h19 => ?_) (fun h19 => absurd h19 (by decide))
  refine m_aload_n (pc' := 26) dX11_would_25 rfl rfl ?_
  refine m_iload_n (pc' := 27) dX11_would_26 rfl rfl ?_
  refine m_callV (pc' := 30) (A := [.int (nI e)]) (rest := []) (b := 214) cl_X11_would_204 dX11_would_27 rfl rfl (Nat.le_of_ble_eq_true rfl) ⟨by decide, by decide⟩ (by decide) rfl rfl rfl rfl ?_
  refine c_mcoTo (e := e) (h0 := a_h A) (s := a_s A) hs hc hl et76 (by omega) hen hM.2.2.2.2.2.1 (fun f f0 f10 f9 f11 f12 f13 => ?_)
  show mM G mX11_would 30 [some (.ref 214), some (.int (nI e)), some (.int 1)] [] S1 f (0, 0) Q
  have hs := f0.s hs
  refine m_iload_n (pc' := 31) dX11_would_30 rfl rfl ?_
  refine m_if_ne (tgt := 41) (pc' := 34) dX11_would_31 (by decide) rfl (fun h31 => ?_) (fun h31 => absurd h31 (by decide))
  refine m_iload_n (pc' := 42) dX11_would_41 rfl rfl ?_
  refine m_iconst (pc' := 43) (v := 1) dX11_would_42 (by decide) rfl ?_
  refine m_icmp_ne (tgt := 53) (pc' := 46) dX11_would_43 (by decide) rfl (fun h43 => absurd h43 (by decide)) (fun h43 => ?_)
  refine m_aload_n (pc' := 47) dX11_would_46 rfl rfl ?_
  refine m_getI (pc' := 50) fa_X11_would_80 dX11_would_47 (by decide) rfl rfl rfl ?_
  rw [show (f.1 214 12) = (ec (a_s A) t0 (a_h A) e) from f12]
  refine m_goto (tgt := 57) dX11_would_50 (by decide) ?_
  refine m_iret dX11_would_57 rfl rfl ⟨by decide, by decide⟩ ?_
  exact hQ f (mfr.th.trans (sim_mf f0)) (hM.th.sim f0)
set_option maxHeartbeats 4000000 in
set_option maxRecDepth 100000 in
theorem p_would2 {A : AS} {e : Int32} (hM : MM d A) (hO : OK A) (hQ : ∀ d', mfr d d' → MM d' A → Q (some (.int (vWould A e 2))) S1 d') : mC G mX11_would [.ref 214, .int e, .int 2] S1 d Q := by
  have hs : d.1 215 = a_s A := hM.1
  by_cases h1 : bin e 0 (a_s A 43 - 1) = 0
  · skip
    rw [show vWould A e 2 = eI from if_pos (Or.inl h1)] at hQ
    refine mC_of (by decide +kernel) ⟨_, rfl⟩ (Nat.le_of_ble_eq_true rfl) ?_
    show mM G mX11_would 0 [some (.ref 214), some (.int e), some (.int 2)] [] S1 d (0, 0) Q
    refine m_aload_n (pc' := 1) dX11_would_0 rfl rfl ?_
    refine m_iconst (pc' := 2) (v := 0) dX11_would_1 (by decide) rfl ?_
    refine m_putI (pc' := 5) (ty := .int) fa_X11_would_29 dX11_would_2 (by decide +kernel) rfl rfl (by decide) rfl rfl rfl ?_
    refine m_aload_n (pc' := 6) dX11_would_5 rfl rfl ?_
    refine m_iload_n (pc' := 7) dX11_would_6 rfl rfl ?_
    refine m_callV (pc' := 10) (A := [.int e]) (rest := []) (b := 214) cl_X11_would_127 dX11_would_7 rfl rfl (Nat.le_of_ble_eq_true rfl) ⟨by decide, by decide⟩ (by decide) rfl rfl rfl rfl ?_
    refine c_ment (s := a_s A) hs ?_
    show mM G mX11_would 10 [some (.ref 214), some (.int e), some (.int 2)] [.int (bin e 0 ((a_s A) 43 - 1))] S1 (u2 d.1 214 0 0, d.2) (0, 0) Q
    rw [show (bin e 0 ((a_s A) 43 - 1)) = 0 from h1]
    refine m_if_eq (tgt := 22) (pc' := 13) dX11_would_10 (by decide) rfl (fun h10 => ?_) (fun h10 => absurd h10 (by decide))
    refine m_ldc (pc' := 24) dX11_would_22 kc_X11_would_111 rfl ?_
    refine m_iret dX11_would_24 rfl rfl ⟨by decide, by decide⟩ ?_
    exact hQ _ mfr.th hM.th
  obtain ⟨n, hl⟩ := hO.l
  have e43 := hl.2.1
  have hn16 := hl.1
  obtain ⟨t0, ht0, et76⟩ := hO.t
  have hc := hO.c
  have ett : nn (a_s A 76) = t0 := by rw [et76]; exact nn_nI (by omega)
  obtain ⟨e, hen, rfl⟩ := bin_e (n := n) (by omega) (by rw [← e43]; exact h1)
  rw [show vWould A (nI e) 2 = ee (a_s A) t0 (a_h A) e from by unfold vWould; rw [if_neg (not_or.mpr ⟨h1, by decide⟩), ett, nn_nI (by omega), if_neg (by decide), if_neg (by decide)]] at hQ
  refine mC_of (by decide +kernel) ⟨_, rfl⟩ (Nat.le_of_ble_eq_true rfl) ?_
  show mM G mX11_would 0 [some (.ref 214), some (.int (nI e)), some (.int 2)] [] S1 d (0, 0) Q
  refine m_aload_n (pc' := 1) dX11_would_0 rfl rfl ?_
  refine m_iconst (pc' := 2) (v := 0) dX11_would_1 (by decide) rfl ?_
  refine m_putI (pc' := 5) (ty := .int) fa_X11_would_29 dX11_would_2 (by decide +kernel) rfl rfl (by decide) rfl rfl rfl ?_
  refine m_aload_n (pc' := 6) dX11_would_5 rfl rfl ?_
  refine m_iload_n (pc' := 7) dX11_would_6 rfl rfl ?_
  refine m_callV (pc' := 10) (A := [.int (nI e)]) (rest := []) (b := 214) cl_X11_would_127 dX11_would_7 rfl rfl (Nat.le_of_ble_eq_true rfl) ⟨by decide, by decide⟩ (by decide) rfl rfl rfl rfl ?_
  refine c_ment (s := a_s A) hs ?_
  show mM G mX11_would 10 [some (.ref 214), some (.int (nI e)), some (.int 2)] [.int (bin (nI e) 0 ((a_s A) 43 - 1))] S1 (u2 d.1 214 0 0, d.2) (0, 0) Q
  rw [show (bin (nI e) 0 ((a_s A) 43 - 1)) = 1 from bin_1 h1]
  refine m_if_eq (tgt := 22) (pc' := 13) dX11_would_10 (by decide) rfl (fun h10 => absurd h10 (by decide)) (fun h10 => ?_)
  refine m_iload_n (pc' := 14) dX11_would_13 rfl rfl ?_
  refine m_iconst (pc' := 15) (v := 0) dX11_would_14 (by decide) rfl ?_
  refine m_iconst (pc' := 16) (v := 2) dX11_would_15 (by decide) rfl ?_
  refine m_callS (pc' := 19) (A := [.int 2, .int 0, .int 2]) (rest := []) cl_X11_would_40 dX11_would_16 rfl rfl (Nat.le_of_ble_eq_true rfl) ⟨by decide, by decide⟩ rfl rfl ?_
  refine c_in ?_
  show mM G mX11_would 19 [some (.ref 214), some (.int (nI e)), some (.int 2)] [.int (bin 2 0 2)] S1 (u2 d.1 214 0 0, d.2) (0, 0) Q
  rw [show (bin 2 0 2) = 1 from rfl]
  refine m_if_ne (tgt := 25) (pc' := 22) dX11_would_19 (by decide) rfl (fun h19 => ?_) (fun h19 => absurd h19 (by decide))
  refine m_aload_n (pc' := 26) dX11_would_25 rfl rfl ?_
  refine m_iload_n (pc' := 27) dX11_would_26 rfl rfl ?_
  refine m_callV (pc' := 30) (A := [.int (nI e)]) (rest := []) (b := 214) cl_X11_would_204 dX11_would_27 rfl rfl (Nat.le_of_ble_eq_true rfl) ⟨by decide, by decide⟩ (by decide) rfl rfl rfl rfl ?_
  refine c_mcoTo (e := e) (h0 := a_h A) (s := a_s A) hs hc hl et76 (by omega) hen hM.2.2.2.2.2.1 (fun f f0 f10 f9 f11 f12 f13 => ?_)
  show mM G mX11_would 30 [some (.ref 214), some (.int (nI e)), some (.int 2)] [] S1 f (0, 0) Q
  have hs := f0.s hs
  refine m_iload_n (pc' := 31) dX11_would_30 rfl rfl ?_
  refine m_if_ne (tgt := 41) (pc' := 34) dX11_would_31 (by decide) rfl (fun h31 => ?_) (fun h31 => absurd h31 (by decide))
  refine m_iload_n (pc' := 42) dX11_would_41 rfl rfl ?_
  refine m_iconst (pc' := 43) (v := 1) dX11_would_42 (by decide) rfl ?_
  refine m_icmp_ne (tgt := 53) (pc' := 46) dX11_would_43 (by decide) rfl (fun h43 => ?_) (fun h43 => absurd h43 (by decide))
  refine m_aload_n (pc' := 54) dX11_would_53 rfl rfl ?_
  refine m_getI (pc' := 57) fa_X11_would_83 dX11_would_54 (by decide) rfl rfl rfl ?_
  rw [show (f.1 214 13) = (ee (a_s A) t0 (a_h A) e) from f13]
  refine m_iret dX11_would_57 rfl rfl ⟨by decide, by decide⟩ ?_
  exact hQ f (mfr.th.trans (sim_mf f0)) (hM.th.sim f0)
set_option maxHeartbeats 4000000 in
set_option maxRecDepth 100000 in
theorem p_wouldX {A : AS} {e w : Int32} (hM : MM d A) (h2 : bin w 0 2 = 0) (hQ : ∀ d', mfr d d' → MM d' A → Q (some (.int (vWould A e w))) S1 d') : mC G mX11_would [.ref 214, .int e, .int w] S1 d Q := by
  have hs : d.1 215 = a_s A := hM.1
  by_cases h1 : bin e 0 (a_s A 43 - 1) = 0
  · skip
    rw [show vWould A e w = eI from if_pos (Or.inl h1)] at hQ
    refine mC_of (by decide +kernel) ⟨_, rfl⟩ (Nat.le_of_ble_eq_true rfl) ?_
    show mM G mX11_would 0 [some (.ref 214), some (.int e), some (.int w)] [] S1 d (0, 0) Q
    refine m_aload_n (pc' := 1) dX11_would_0 rfl rfl ?_
    refine m_iconst (pc' := 2) (v := 0) dX11_would_1 (by decide) rfl ?_
    refine m_putI (pc' := 5) (ty := .int) fa_X11_would_29 dX11_would_2 (by decide +kernel) rfl rfl (by decide) rfl rfl rfl ?_
    refine m_aload_n (pc' := 6) dX11_would_5 rfl rfl ?_
    refine m_iload_n (pc' := 7) dX11_would_6 rfl rfl ?_
    refine m_callV (pc' := 10) (A := [.int e]) (rest := []) (b := 214) cl_X11_would_127 dX11_would_7 rfl rfl (Nat.le_of_ble_eq_true rfl) ⟨by decide, by decide⟩ (by decide) rfl rfl rfl rfl ?_
    refine c_ment (s := a_s A) hs ?_
    show mM G mX11_would 10 [some (.ref 214), some (.int e), some (.int w)] [.int (bin e 0 ((a_s A) 43 - 1))] S1 (u2 d.1 214 0 0, d.2) (0, 0) Q
    rw [show (bin e 0 ((a_s A) 43 - 1)) = 0 from h1]
    refine m_if_eq (tgt := 22) (pc' := 13) dX11_would_10 (by decide) rfl (fun h10 => ?_) (fun h10 => absurd h10 (by decide))
    refine m_ldc (pc' := 24) dX11_would_22 kc_X11_would_111 rfl ?_
    refine m_iret dX11_would_24 rfl rfl ⟨by decide, by decide⟩ ?_
    exact hQ _ mfr.th hM.th
  rw [show vWould A e w = eI from if_pos (Or.inr h2)] at hQ
  refine mC_of (by decide +kernel) ⟨_, rfl⟩ (Nat.le_of_ble_eq_true rfl) ?_
  show mM G mX11_would 0 [some (.ref 214), some (.int e), some (.int w)] [] S1 d (0, 0) Q
  refine m_aload_n (pc' := 1) dX11_would_0 rfl rfl ?_
  refine m_iconst (pc' := 2) (v := 0) dX11_would_1 (by decide) rfl ?_
  refine m_putI (pc' := 5) (ty := .int) fa_X11_would_29 dX11_would_2 (by decide +kernel) rfl rfl (by decide) rfl rfl rfl ?_
  refine m_aload_n (pc' := 6) dX11_would_5 rfl rfl ?_
  refine m_iload_n (pc' := 7) dX11_would_6 rfl rfl ?_
  refine m_callV (pc' := 10) (A := [.int e]) (rest := []) (b := 214) cl_X11_would_127 dX11_would_7 rfl rfl (Nat.le_of_ble_eq_true rfl) ⟨by decide, by decide⟩ (by decide) rfl rfl rfl rfl ?_
  refine c_ment (s := a_s A) hs ?_
  show mM G mX11_would 10 [some (.ref 214), some (.int e), some (.int w)] [.int (bin e 0 ((a_s A) 43 - 1))] S1 (u2 d.1 214 0 0, d.2) (0, 0) Q
  rw [show (bin e 0 ((a_s A) 43 - 1)) = 1 from bin_1 h1]
  refine m_if_eq (tgt := 22) (pc' := 13) dX11_would_10 (by decide) rfl (fun h10 => absurd h10 (by decide)) (fun h10 => ?_)
  refine m_iload_n (pc' := 14) dX11_would_13 rfl rfl ?_
  refine m_iconst (pc' := 15) (v := 0) dX11_would_14 (by decide) rfl ?_
  refine m_iconst (pc' := 16) (v := 2) dX11_would_15 (by decide) rfl ?_
  refine m_callS (pc' := 19) (A := [.int w, .int 0, .int 2]) (rest := []) cl_X11_would_40 dX11_would_16 rfl rfl (Nat.le_of_ble_eq_true rfl) ⟨by decide, by decide⟩ rfl rfl ?_
  refine c_in ?_
  show mM G mX11_would 19 [some (.ref 214), some (.int e), some (.int w)] [.int (bin w 0 2)] S1 (u2 d.1 214 0 0, d.2) (0, 0) Q
  rw [show (bin w 0 2) = 0 from h2]
  refine m_if_ne (tgt := 25) (pc' := 22) dX11_would_19 (by decide) rfl (fun h19 => absurd h19 (by decide)) (fun h19 => ?_)
  refine m_ldc (pc' := 24) dX11_would_22 kc_X11_would_111 rfl ?_
  refine m_iret dX11_would_24 rfl rfl ⟨by decide, by decide⟩ ?_
  exact hQ _ mfr.th hM.th
theorem p_would {A : AS} {e w : Int32} (hM : MM d A) (hO : OK A) (hQ : ∀ d', mfr d d' → MM d' A → Q (some (.int (vWould A e w))) S1 d') : mC G mX11_would [.ref 214, .int e, .int w] S1 d Q := by
  by_cases h2 : bin w 0 2 = 0
  · exact p_wouldX hM h2 hQ
  obtain ⟨w, hw, rfl⟩ := bin_t (b := 2) (by decide) h2
  rcases (show w = 0 ∨ w = 1 ∨ w = 2 by omega) with rfl | rfl | rfl
  · exact p_would0 hM hO hQ
  · exact p_would1 hM hO hQ
  · exact p_would2 hM hO hQ
set_option maxHeartbeats 4000000 in
set_option maxRecDepth 100000 in
theorem p_why {A : AS} {e : Int32} (hM : MM d A) (hO : OK A) (hQ : ∀ d', mfr d d' → MM d' A → Q (some (.int (vWhy A e))) S1 d') : mC G mX11_why [.ref 214, .int e] S1 d Q := by
  have hs : d.1 215 = a_s A := hM.1
  by_cases h1 : bin e 0 (a_s A 43 - 1) = 0
  · skip
    rw [show vWhy A e = eI from if_pos h1] at hQ
    refine mC_of (by decide +kernel) ⟨_, rfl⟩ (Nat.le_of_ble_eq_true rfl) ?_
    show mM G mX11_why 0 [some (.ref 214), some (.int e)] [] S1 d (0, 0) Q
    refine m_aload_n (pc' := 1) dX11_why_0 rfl rfl ?_
    refine m_iconst (pc' := 2) (v := 0) dX11_why_1 (by decide) rfl ?_
    refine m_putI (pc' := 5) (ty := .int) fa_X11_why_29 dX11_why_2 (by decide +kernel) rfl rfl (by decide) rfl rfl rfl ?_
    refine m_aload_n (pc' := 6) dX11_why_5 rfl rfl ?_
    refine m_iload_n (pc' := 7) dX11_why_6 rfl rfl ?_
    refine m_callV (pc' := 10) (A := [.int e]) (rest := []) (b := 214) cl_X11_why_127 dX11_why_7 rfl rfl (Nat.le_of_ble_eq_true rfl) ⟨by decide, by decide⟩ (by decide) rfl rfl rfl rfl ?_
    refine c_ment (s := a_s A) hs ?_
    show mM G mX11_why 10 [some (.ref 214), some (.int e)] [.int (bin e 0 ((a_s A) 43 - 1))] S1 (u2 d.1 214 0 0, d.2) (0, 0) Q
    rw [show (bin e 0 ((a_s A) 43 - 1)) = 0 from h1]
    refine m_if_ne (tgt := 16) (pc' := 13) dX11_why_10 (by decide) rfl (fun h10 => absurd h10 (by decide)) (fun h10 => ?_)
    refine m_ldc (pc' := 15) dX11_why_13 kc_X11_why_111 rfl ?_
    refine m_iret dX11_why_15 rfl rfl ⟨by decide, by decide⟩ ?_
    exact hQ _ mfr.th hM.th
  obtain ⟨n, hl⟩ := hO.l
  have e43 := hl.2.1
  have hn16 := hl.1
  obtain ⟨t0, ht0, et76⟩ := hO.t
  have hc := hO.c
  have ett : nn (a_s A 76) = t0 := by rw [et76]; exact nn_nI (by omega)
  obtain ⟨e, hen, rfl⟩ := bin_e (n := n) (by omega) (by rw [← e43]; exact h1)
  rw [show vWhy A (nI e) = if ee (a_s A) t0 (a_h A) e = 0 then 0 else if ¬ ec (a_s A) t0 (a_h A) e = 0 then (if 0 < ec (a_s A) t0 (a_h A) e then 1 else 2) else if rdb (eh (a_s A) t0 (a_h A) (e + 1)) 1000 0 = pvl (a_s A) (pn (a_s A) e) (nI (et (a_s A) t0 e + qn (a_s A) e)) then 3 else 4 from by unfold vWhy; rw [if_neg h1, ett, nn_nI (by omega)]] at hQ
  refine mC_of (by decide +kernel) ⟨_, rfl⟩ (Nat.le_of_ble_eq_true rfl) ?_
  show mM G mX11_why 0 [some (.ref 214), some (.int (nI e))] [] S1 d (0, 0) Q
  refine m_aload_n (pc' := 1) dX11_why_0 rfl rfl ?_
  refine m_iconst (pc' := 2) (v := 0) dX11_why_1 (by decide) rfl ?_
  refine m_putI (pc' := 5) (ty := .int) fa_X11_why_29 dX11_why_2 (by decide +kernel) rfl rfl (by decide) rfl rfl rfl ?_
  refine m_aload_n (pc' := 6) dX11_why_5 rfl rfl ?_
  refine m_iload_n (pc' := 7) dX11_why_6 rfl rfl ?_
  refine m_callV (pc' := 10) (A := [.int (nI e)]) (rest := []) (b := 214) cl_X11_why_127 dX11_why_7 rfl rfl (Nat.le_of_ble_eq_true rfl) ⟨by decide, by decide⟩ (by decide) rfl rfl rfl rfl ?_
  refine c_ment (s := a_s A) hs ?_
  show mM G mX11_why 10 [some (.ref 214), some (.int (nI e))] [.int (bin (nI e) 0 ((a_s A) 43 - 1))] S1 (u2 d.1 214 0 0, d.2) (0, 0) Q
  rw [show (bin (nI e) 0 ((a_s A) 43 - 1)) = 1 from bin_1 h1]
  refine m_if_ne (tgt := 16) (pc' := 13) dX11_why_10 (by decide) rfl (fun h10 => ?_) (fun h10 => absurd h10 (by decide))
  refine m_aload_n (pc' := 17) dX11_why_16 rfl rfl ?_
  refine m_iload_n (pc' := 18) dX11_why_17 rfl rfl ?_
  refine m_callV (pc' := 21) (A := [.int (nI e)]) (rest := []) (b := 214) cl_X11_why_204 dX11_why_18 rfl rfl (Nat.le_of_ble_eq_true rfl) ⟨by decide, by decide⟩ (by decide) rfl rfl rfl rfl ?_
  refine c_mcoTo (e := e) (h0 := a_h A) (s := a_s A) hs hc hl et76 (by omega) hen hM.2.2.2.2.2.1 (fun f f0 f10 f9 f11 f12 f13 => ?_)
  show mM G mX11_why 21 [some (.ref 214), some (.int (nI e))] [] S1 f (0, 0) Q
  have hs := f0.s hs
  refine m_aload_n (pc' := 22) dX11_why_21 rfl rfl ?_
  refine m_getI (pc' := 25) fa_X11_why_83 dX11_why_22 (by decide) rfl rfl rfl ?_
  rw [show (f.1 214 13) = (ee (a_s A) t0 (a_h A) e) from f13]
  refine m_if_ne (tgt := 30) (pc' := 28) dX11_why_25 (by decide) rfl (fun h25 => ?_) (fun h25 => ?_)
  · skip
    refine m_aload_n (pc' := 31) dX11_why_30 rfl rfl ?_
    refine m_getI (pc' := 34) fa_X11_why_80 dX11_why_31 (by decide) rfl rfl rfl ?_
    rw [show (f.1 214 12) = (ec (a_s A) t0 (a_h A) e) from f12]
    refine m_if_eq (tgt := 50) (pc' := 37) dX11_why_34 (by decide) rfl (fun h34 => ?_) (fun h34 => ?_)
    · skip
      refine m_aload_n (pc' := 51) dX11_why_50 rfl rfl ?_
      refine m_getF (pc' := 54) fa_X11_why_63 dX11_why_51 (by decide) rfl rfl rfl ?_
      rw [show (f.2 214 9) = (eh (a_s A) t0 (a_h A) (e + 1)) from f9]
      refine m_sipush (pc' := 57) (v := 1000) dX11_why_54 (by decide) rfl ?_
      refine m_iconst (pc' := 58) (v := 0) dX11_why_57 (by decide) rfl ?_
      refine m_callS (pc' := 61) (A := [.float (eh (a_s A) t0 (a_h A) (e + 1)), .int 1000, .int 0]) (rest := []) cl_X11_why_59 dX11_why_58 rfl rfl (Nat.le_of_ble_eq_true rfl) ⟨by decide, by decide⟩ rfl rfl ?_
      refine c_mreadingBy ?_
      show mM G mX11_why 61 [some (.ref 214), some (.int (nI e))] [.int (rdb (eh (a_s A) t0 (a_h A) (e + 1)) 1000 0)] S1 f (0, 0) Q
      refine m_aload_n (pc' := 62) dX11_why_61 rfl rfl ?_
      refine m_aload_n (pc' := 63) dX11_why_62 rfl rfl ?_
      refine m_iload_n (pc' := 64) dX11_why_63 rfl rfl ?_
      refine m_callV (pc' := 67) (A := [.int (nI e)]) (rest := [.ref 214, .int (rdb (eh (a_s A) t0 (a_h A) (e + 1)) 1000 0)]) (b := 214) cl_X11_why_89 dX11_why_64 rfl rfl (Nat.le_of_ble_eq_true rfl) ⟨by decide, by decide⟩ (by decide) rfl rfl rfl rfl ?_
      refine c_mplace (i := e) (s := a_s A) hs (by omega) ?_
      show mM G mX11_why 67 [some (.ref 214), some (.int (nI e))] [.int ((a_s A) (44 + 2 * e)), .ref 214, .int (rdb (eh (a_s A) t0 (a_h A) (e + 1)) 1000 0)] S1 f (0, 0) Q
      rw [show ((a_s A) (44 + 2 * e)) = (nI (pn (a_s A) e)) from (okL_p hl hen).1]
      refine m_aload_n (pc' := 68) dX11_why_67 rfl rfl ?_
      refine m_getI (pc' := 71) fa_X11_why_66 dX11_why_68 (by decide) rfl rfl rfl ?_
      rw [show (f.1 214 10) = (nI (et (a_s A) t0 (e + 1))) from f10]
      refine m_iconst (pc' := 72) (v := 1) dX11_why_71 (by decide) rfl ?_
      refine m_isub (pc' := 73) dX11_why_72 rfl ?_
      rw [show ((nI (et (a_s A) t0 (e + 1))) - 1) = (nI (et (a_s A) t0 e + qn (a_s A) e)) from nI_pred _]
      refine m_callV (pc' := 76) (A := [.int (nI (pn (a_s A) e)), .int (nI (et (a_s A) t0 e + qn (a_s A) e))]) (rest := [.int (rdb (eh (a_s A) t0 (a_h A) (e + 1)) 1000 0)]) (b := 214) cl_X11_why_54 dX11_why_73 rfl rfl (Nat.le_of_ble_eq_true rfl) ⟨by decide, by decide⟩ (by decide) rfl rfl rfl rfl ?_
      refine c_mvalueOf (s := a_s A) hs (pok_of hc (okL_p hl hen).2) ?_
      show mM G mX11_why 76 [some (.ref 214), some (.int (nI e))] [.int (pvl (a_s A) (pn (a_s A) e) (nI (et (a_s A) t0 e + qn (a_s A) e))), .int (rdb (eh (a_s A) t0 (a_h A) (e + 1)) 1000 0)] S1 f (0, 0) Q
      refine m_icmp_ne (tgt := 83) (pc' := 79) dX11_why_76 (by decide) rfl (fun h76 => ?_) (fun h76 => ?_)
      · skip
        refine m_iconst (pc' := 84) (v := 4) dX11_why_83 (by decide) rfl ?_
        refine m_iret dX11_why_84 rfl rfl ⟨by decide, by decide⟩ ?_
        exact q_i (hQ f (mfr.th.trans (sim_mf f0)) (hM.th.sim f0)) (by rw [if_neg h25, if_neg (fun h => h h34), if_neg h76])
      · skip
        refine m_iconst (pc' := 80) (v := 3) dX11_why_79 (by decide) rfl ?_
        refine m_goto (tgt := 84) dX11_why_80 (by decide) ?_
        refine m_iret dX11_why_84 rfl rfl ⟨by decide, by decide⟩ ?_
        exact q_i (hQ f (mfr.th.trans (sim_mf f0)) (hM.th.sim f0)) (by rw [if_neg h25, if_neg (fun h => h h34), if_pos h76])
    · skip
      refine m_aload_n (pc' := 38) dX11_why_37 rfl rfl ?_
      refine m_getI (pc' := 41) fa_X11_why_80 dX11_why_38 (by decide) rfl rfl rfl ?_
      rw [show (f.1 214 12) = (ec (a_s A) t0 (a_h A) e) from f12]
      refine m_if_le (tgt := 48) (pc' := 44) dX11_why_41 (by decide) rfl (fun h41 => ?_) (fun h41 => ?_)
      · skip
        refine m_iconst (pc' := 49) (v := 2) dX11_why_48 (by decide) rfl ?_
        refine m_iret dX11_why_49 rfl rfl ⟨by decide, by decide⟩ ?_
        exact q_i (hQ f (mfr.th.trans (sim_mf f0)) (hM.th.sim f0)) (by rw [if_neg h25, if_pos h34, if_neg (Int32.not_lt.mpr h41)])
      · skip
        refine m_iconst (pc' := 45) (v := 1) dX11_why_44 (by decide) rfl ?_
        refine m_goto (tgt := 49) dX11_why_45 (by decide) ?_
        refine m_iret dX11_why_49 rfl rfl ⟨by decide, by decide⟩ ?_
        exact q_i (hQ f (mfr.th.trans (sim_mf f0)) (hM.th.sim f0)) (by rw [if_neg h25, if_pos h34, if_pos (Int32.not_le.mp h41)])
  · skip
    refine m_iconst (pc' := 29) (v := 0) dX11_why_28 (by decide) rfl ?_
    refine m_iret dX11_why_29 rfl rfl ⟨by decide, by decide⟩ ?_
    exact q_i (hQ f (mfr.th.trans (sim_mf f0)) (hM.th.sim f0)) (by rw [if_pos h25])
end MOD8
