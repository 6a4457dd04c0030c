/-! THE CLASS'S OWN CALLS (3): looks -/
section CLS11
variable {G : GP} {Q : Option Value → Sh → Dt → Prop} {d : Dt}
set_option maxHeartbeats 4000000 in
set_option maxRecDepth 100000 in
theorem k_count0 {A : AS}  (hC : CR d A) (hO : OK A) (hQ : ∀ d', cfr d d' → CR d' A → Q (some (.int (vCount A 0))) S1 d') : mC G mX10_count [.ref 0, .int 0] S1 d Q := by
  rw [show vCount A 0 = a_s A 76 from by unfold vCount; rw [if_pos rfl]] at hQ
  refine mC_of (by decide +kernel) ⟨_, rfl⟩ (Nat.le_of_ble_eq_true rfl) ?_
  show mM G mX10_count 0 [some (.ref 0), some (.int 0)] [] S1 d (0, 0) Q
  refine m_iload_n (pc' := 1) dX10_count_0 rfl rfl ?_
  refine m_tableIn (tgt := 68) (off := 67) dX10_count_1 (by decide) (by decide) rfl (by decide) ?_
  refine m_aload_n (pc' := 69) dX10_count_68 rfl rfl ?_
  refine m_getR (pc' := 72) fa_X10_count_10 dX10_count_69 (by decide) rfl rfl rfl rfl ?_
  refine m_callV (pc' := 75) (A := []) (rest := []) (b := 1) cl_X10_count_121 dX10_count_72 rfl rfl (Nat.le_of_ble_eq_true rfl) ⟨by decide, by decide⟩ (by decide) rfl rfl rfl rfl ?_
  refine c_time hC.1 hO.1.2.2.2.2.2 ?_
  show mM G mX10_count 75 [some (.ref 0), some (.int 0)] [.int (a_s A 76)] S1 d (0, 0) Q
  refine m_iret dX10_count_75 rfl rfl ⟨by decide, by decide⟩ ?_
  exact hQ _ fr.rfl hC
set_option maxHeartbeats 4000000 in
set_option maxRecDepth 100000 in
theorem k_count1 {A : AS}  (hC : CR d A) (hO : OK A) (hQ : ∀ d', cfr d d' → CR d' A → Q (some (.int (vCount A 1))) S1 d') : mC G mX10_count [.ref 0, .int 1] S1 d Q := by
  rw [show vCount A 1 = a_s A 43 from by unfold vCount; rw [if_neg (by decide), if_pos rfl]] at hQ
  refine mC_of (by decide +kernel) ⟨_, rfl⟩ (Nat.le_of_ble_eq_true rfl) ?_
  show mM G mX10_count 0 [some (.ref 0), some (.int 1)] [] S1 d (0, 0) Q
  refine m_iload_n (pc' := 1) dX10_count_0 rfl rfl ?_
  refine m_tableIn (tgt := 76) (off := 75) dX10_count_1 (by decide) (by decide) rfl (by decide) ?_
  refine m_aload_n (pc' := 77) dX10_count_76 rfl rfl ?_
  refine m_getR (pc' := 80) fa_X10_count_10 dX10_count_77 (by decide) rfl rfl rfl rfl ?_
  refine m_getR (pc' := 83) fa_X10_count_64 dX10_count_80 (by decide) rfl rfl rfl rfl ?_
  refine m_getI (pc' := 86) fa_X10_count_100 dX10_count_83 (by decide) rfl rfl rfl ?_
  rw [show (d.1 2 3) = (a_s A 43) from hC.1.1.2.2.2]
  refine m_iret dX10_count_86 rfl rfl ⟨by decide, by decide⟩ ?_
  exact hQ _ fr.rfl hC
set_option maxHeartbeats 4000000 in
set_option maxRecDepth 100000 in
theorem k_count2 {A : AS}  (hC : CR d A) (hO : OK A) (hQ : ∀ d', cfr d d' → CR d' A → Q (some (.int (vCount A 2))) S1 d') : mC G mX10_count [.ref 0, .int 2] S1 d Q := by
  rw [show vCount A 2 = a_s A 40 from by unfold vCount; rw [if_neg (by decide), if_neg (by decide), if_pos rfl]] at hQ
  refine mC_of (by decide +kernel) ⟨_, rfl⟩ (Nat.le_of_ble_eq_true rfl) ?_
  show mM G mX10_count 0 [some (.ref 0), some (.int 2)] [] S1 d (0, 0) Q
  refine m_iload_n (pc' := 1) dX10_count_0 rfl rfl ?_
  refine m_tableIn (tgt := 87) (off := 86) dX10_count_1 (by decide) (by decide) rfl (by decide) ?_
  refine m_aload_n (pc' := 88) dX10_count_87 rfl rfl ?_
  refine m_getR (pc' := 91) fa_X10_count_10 dX10_count_88 (by decide) rfl rfl rfl rfl ?_
  refine m_getR (pc' := 94) fa_X10_count_64 dX10_count_91 (by decide) rfl rfl rfl rfl ?_
  refine m_iconst (pc' := 95) (v := 0) dX10_count_94 (by decide) rfl ?_
  refine m_callV (pc' := 98) (A := [.int 0]) (rest := []) (b := 2) cl_X10_count_93 dX10_count_95 rfl rfl (Nat.le_of_ble_eq_true rfl) ⟨by decide, by decide⟩ (by decide) rfl rfl rfl rfl ?_
  refine c_setting (w := 0) (s := a_s A) (by decide) hC.1.1 (by decide) ?_
  show mM G mX10_count 98 [some (.ref 0), some (.int 2)] [.int (a_s A 40)] S1 d (0, 0) Q
  refine m_iret dX10_count_98 rfl rfl ⟨by decide, by decide⟩ ?_
  exact hQ _ fr.rfl hC
set_option maxHeartbeats 4000000 in
set_option maxRecDepth 100000 in
theorem k_count3 {A : AS}  (hC : CR d A) (hO : OK A) (hQ : ∀ d', cfr d d' → CR d' A → Q (some (.int (vCount A 3))) S1 d') : mC G mX10_count [.ref 0, .int 3] S1 d Q := by
  rw [show vCount A 3 = a_s A 41 from by unfold vCount; rw [if_neg (by decide), if_neg (by decide), if_neg (by decide), if_pos rfl]] at hQ
  refine mC_of (by decide +kernel) ⟨_, rfl⟩ (Nat.le_of_ble_eq_true rfl) ?_
  show mM G mX10_count 0 [some (.ref 0), some (.int 3)] [] S1 d (0, 0) Q
  refine m_iload_n (pc' := 1) dX10_count_0 rfl rfl ?_
  refine m_tableIn (tgt := 99) (off := 98) dX10_count_1 (by decide) (by decide) rfl (by decide) ?_
  refine m_aload_n (pc' := 100) dX10_count_99 rfl rfl ?_
  refine m_getR (pc' := 103) fa_X10_count_10 dX10_count_100 (by decide) rfl rfl rfl rfl ?_
  refine m_getR (pc' := 106) fa_X10_count_64 dX10_count_103 (by decide) rfl rfl rfl rfl ?_
  refine m_iconst (pc' := 107) (v := 1) dX10_count_106 (by decide) rfl ?_
  refine m_callV (pc' := 110) (A := [.int 1]) (rest := []) (b := 2) cl_X10_count_93 dX10_count_107 rfl rfl (Nat.le_of_ble_eq_true rfl) ⟨by decide, by decide⟩ (by decide) rfl rfl rfl rfl ?_
  refine c_setting (w := 1) (s := a_s A) (by decide) hC.1.1 (by decide) ?_
  show mM G mX10_count 110 [some (.ref 0), some (.int 3)] [.int (a_s A 41)] S1 d (0, 0) Q
  refine m_iret dX10_count_110 rfl rfl ⟨by decide, by decide⟩ ?_
  exact hQ _ fr.rfl hC
set_option maxHeartbeats 4000000 in
set_option maxRecDepth 100000 in
theorem k_count4 {A : AS}  (hC : CR d A) (hO : OK A) (hQ : ∀ d', cfr d d' → CR d' A → Q (some (.int (vCount A 4))) S1 d') : mC G mX10_count [.ref 0, .int 4] S1 d Q := by
  rw [show vCount A 4 = a_s A 42 from by unfold vCount; rw [if_neg (by decide), if_neg (by decide), if_neg (by decide), if_neg (by decide), if_pos rfl]] at hQ
  refine mC_of (by decide +kernel) ⟨_, rfl⟩ (Nat.le_of_ble_eq_true rfl) ?_
  show mM G mX10_count 0 [some (.ref 0), some (.int 4)] [] S1 d (0, 0) Q
  refine m_iload_n (pc' := 1) dX10_count_0 rfl rfl ?_
  refine m_tableIn (tgt := 111) (off := 110) dX10_count_1 (by decide) (by decide) rfl (by decide) ?_
  refine m_aload_n (pc' := 112) dX10_count_111 rfl rfl ?_
  refine m_getR (pc' := 115) fa_X10_count_10 dX10_count_112 (by decide) rfl rfl rfl rfl ?_
  refine m_getR (pc' := 118) fa_X10_count_64 dX10_count_115 (by decide) rfl rfl rfl rfl ?_
  refine m_iconst (pc' := 119) (v := 2) dX10_count_118 (by decide) rfl ?_
  refine m_callV (pc' := 122) (A := [.int 2]) (rest := []) (b := 2) cl_X10_count_93 dX10_count_119 rfl rfl (Nat.le_of_ble_eq_true rfl) ⟨by decide, by decide⟩ (by decide) rfl rfl rfl rfl ?_
  refine c_setting (w := 2) (s := a_s A) (by decide) hC.1.1 (by decide) ?_
  show mM G mX10_count 122 [some (.ref 0), some (.int 4)] [.int (a_s A 42)] S1 d (0, 0) Q
  refine m_iret dX10_count_122 rfl rfl ⟨by decide, by decide⟩ ?_
  exact hQ _ fr.rfl hC
set_option maxHeartbeats 4000000 in
set_option maxRecDepth 100000 in
theorem k_count5 {A : AS}  (hC : CR d A) (hO : OK A) (hQ : ∀ d', cfr d d' → CR d' A → Q (some (.int (vCount A 5))) S1 d') : mC G mX10_count [.ref 0, .int 5] S1 d Q := by
  have h77 : d.1 9 2 = a_s A 77 := by obtain ⟨nx, c, -, -, -, q, q2, -⟩ := hC.1.2.1; exact q.trans q2.symm
  rw [show vCount A 5 = a_s A 77 from by unfold vCount; rw [if_neg (by decide), if_neg (by decide), if_neg (by decide), if_neg (by decide), if_neg (by decide), if_pos rfl]] at hQ
  refine mC_of (by decide +kernel) ⟨_, rfl⟩ (Nat.le_of_ble_eq_true rfl) ?_
  show mM G mX10_count 0 [some (.ref 0), some (.int 5)] [] S1 d (0, 0) Q
  refine m_iload_n (pc' := 1) dX10_count_0 rfl rfl ?_
  refine m_tableIn (tgt := 123) (off := 122) dX10_count_1 (by decide) (by decide) rfl (by decide) ?_
  refine m_aload_n (pc' := 124) dX10_count_123 rfl rfl ?_
  refine m_getR (pc' := 127) fa_X10_count_10 dX10_count_124 (by decide) rfl rfl rfl rfl ?_
  refine m_getR (pc' := 130) fa_X10_count_200 dX10_count_127 (by decide) rfl rfl rfl rfl ?_
  refine m_getI (pc' := 133) fa_X10_count_204 dX10_count_130 (by decide) rfl rfl rfl ?_
  rw [show (d.1 9 2) = (a_s A 77) from h77]
  refine m_iret dX10_count_133 rfl rfl ⟨by decide, by decide⟩ ?_
  exact hQ _ fr.rfl hC
set_option maxHeartbeats 4000000 in
set_option maxRecDepth 100000 in
theorem k_count6 {A : AS}  (hC : CR d A) (hO : OK A) (hQ : ∀ d', cfr d d' → CR d' A → Q (some (.int (vCount A 6))) S1 d') : mC G mX10_count [.ref 0, .int 6] S1 d Q := by
  rw [show vCount A 6 = a_s A 254 + a_s A 331 from by unfold vCount; rw [if_neg (by decide), if_neg (by decide), if_neg (by decide), if_neg (by decide), if_neg (by decide), if_neg (by decide), if_pos rfl]] at hQ
  refine mC_of (by decide +kernel) ⟨_, rfl⟩ (Nat.le_of_ble_eq_true rfl) ?_
  show mM G mX10_count 0 [some (.ref 0), some (.int 6)] [] S1 d (0, 0) Q
  refine m_iload_n (pc' := 1) dX10_count_0 rfl rfl ?_
  refine m_tableIn (tgt := 134) (off := 133) dX10_count_1 (by decide) (by decide) rfl (by decide) ?_
  refine m_aload_n (pc' := 135) dX10_count_134 rfl rfl ?_
  refine m_getR (pc' := 138) fa_X10_count_10 dX10_count_135 (by decide) rfl rfl rfl rfl ?_
  refine m_callV (pc' := 141) (A := []) (rest := []) (b := 1) cl_X10_count_207 dX10_count_138 rfl rfl (Nat.le_of_ble_eq_true rfl) ⟨by decide, by decide⟩ (by decide) rfl rfl rfl rfl ?_
  refine c_snapsTaken hC.1 hO.sn.1 hO.sn.2 ?_
  show mM G mX10_count 141 [some (.ref 0), some (.int 6)] [.int (a_s A 254 + a_s A 331)] S1 d (0, 0) Q
  refine m_iret dX10_count_141 rfl rfl ⟨by decide, by decide⟩ ?_
  exact hQ _ fr.rfl hC
set_option maxHeartbeats 4000000 in
set_option maxRecDepth 100000 in
theorem k_count7 {A : AS}  (hC : CR d A) (hO : OK A) (hQ : ∀ d', cfr d d' → CR d' A → Q (some (.int (vCount A 7))) S1 d') : mC G mX10_count [.ref 0, .int 7] S1 d Q := by
  obtain ⟨n, hl⟩ := hO.l
  have e43 := hl.2.1
  have hn16 := hl.1
  have enn : nn (a_s A 43) = n := by rw [e43]; exact nn_nI (by omega)
  rw [show vCount A 7 = sls (a_s A) n from by unfold vCount; rw [if_neg (by decide), if_neg (by decide), if_neg (by decide), if_neg (by decide), if_neg (by decide), if_neg (by decide), if_neg (by decide), if_pos rfl, enn]] at hQ
  refine mC_of (by decide +kernel) ⟨_, rfl⟩ (Nat.le_of_ble_eq_true rfl) ?_
  show mM G mX10_count 0 [some (.ref 0), some (.int 7)] [] S1 d (0, 0) Q
  refine m_iload_n (pc' := 1) dX10_count_0 rfl rfl ?_
  refine m_tableIn (tgt := 142) (off := 141) dX10_count_1 (by decide) (by decide) rfl (by decide) ?_
  refine m_aload_n (pc' := 143) dX10_count_142 rfl rfl ?_
  refine m_getR (pc' := 146) fa_X10_count_10 dX10_count_143 (by decide) rfl rfl rfl rfl ?_
  refine m_getR (pc' := 149) fa_X10_count_64 dX10_count_146 (by decide) rfl rfl rfl rfl ?_
  refine m_callV (pc' := 152) (A := []) (rest := []) (b := 2) cl_X10_count_130 dX10_count_149 rfl rfl (Nat.le_of_ble_eq_true rfl) ⟨by decide, by decide⟩ (by decide) rfl rfl rfl rfl ?_
  refine c_slotsOfScan (s := a_s A) (by decide) hC.1.1 hl ?_
  show mM G mX10_count 152 [some (.ref 0), some (.int 7)] [.int (sls (a_s A) n)] S1 d (0, 0) Q
  refine m_iret dX10_count_152 rfl rfl ⟨by decide, by decide⟩ ?_
  exact hQ _ fr.rfl hC
set_option maxHeartbeats 4000000 in
set_option maxRecDepth 100000 in
theorem k_count8 {A : AS}  (hC : CR d A) (hO : OK A) (hQ : ∀ d', cfr d d' → CR d' A → Q (some (.int (vCount A 8))) S1 d') : mC G mX10_count [.ref 0, .int 8] S1 d Q := by
  have hk : d.1 32 2 = nI (a_m A) := by obtain ⟨nx, -, -, q, -⟩ := hC.2.1; exact q
  rw [show vCount A 8 = nI (a_m A) from by unfold vCount; rw [if_neg (by decide), if_neg (by decide), if_neg (by decide), if_neg (by decide), if_neg (by decide), if_neg (by decide), if_neg (by decide), if_neg (by decide), if_pos rfl]] at hQ
  refine mC_of (by decide +kernel) ⟨_, rfl⟩ (Nat.le_of_ble_eq_true rfl) ?_
  show mM G mX10_count 0 [some (.ref 0), some (.int 8)] [] S1 d (0, 0) Q
  refine m_iload_n (pc' := 1) dX10_count_0 rfl rfl ?_
  refine m_tableIn (tgt := 153) (off := 152) dX10_count_1 (by decide) (by decide) rfl (by decide) ?_
  refine m_aload_n (pc' := 154) dX10_count_153 rfl rfl ?_
  refine m_getR (pc' := 157) fa_X10_count_19 dX10_count_154 (by decide) rfl rfl rfl rfl ?_
  refine m_getI (pc' := 160) fa_X10_count_169 dX10_count_157 (by decide) rfl rfl rfl ?_
  rw [show (d.1 32 2) = (nI (a_m A)) from hk]
  refine m_iret dX10_count_160 rfl rfl ⟨by decide, by decide⟩ ?_
  exact hQ _ fr.rfl hC
set_option maxHeartbeats 4000000 in
set_option maxRecDepth 100000 in
theorem k_count9 {A : AS}  (hC : CR d A) (hO : OK A) (hQ : ∀ d', cfr d d' → CR d' A → Q (some (.int (vCount A 9))) S1 d') : mC G mX10_count [.ref 0, .int 9] S1 d Q := by
  rw [show vCount A 9 = nI (a_n A) from by unfold vCount; rw [if_neg (by decide), if_neg (by decide), if_neg (by decide), if_neg (by decide), if_neg (by decide), if_neg (by decide), if_neg (by decide), if_neg (by decide), if_neg (by decide), if_pos rfl]] at hQ
  refine mC_of (by decide +kernel) ⟨_, rfl⟩ (Nat.le_of_ble_eq_true rfl) ?_
  show mM G mX10_count 0 [some (.ref 0), some (.int 9)] [] S1 d (0, 0) Q
  refine m_iload_n (pc' := 1) dX10_count_0 rfl rfl ?_
  refine m_tableIn (tgt := 161) (off := 160) dX10_count_1 (by decide) (by decide) rfl (by decide) ?_
  refine m_aload_n (pc' := 162) dX10_count_161 rfl rfl ?_
  refine m_getR (pc' := 165) fa_X10_count_47 dX10_count_162 (by decide) rfl rfl rfl rfl ?_
  refine m_getR (pc' := 168) fa_X10_count_175 dX10_count_165 (by decide) rfl rfl rfl rfl ?_
  refine m_getI (pc' := 171) fa_X10_count_179 dX10_count_168 (by decide) rfl rfl rfl ?_
  rw [show (d.1 205 1) = (nI (a_n A)) from hC.2.2.1]
  refine m_iret dX10_count_171 rfl rfl ⟨by decide, by decide⟩ ?_
  exact hQ _ fr.rfl hC
set_option maxHeartbeats 4000000 in
set_option maxRecDepth 100000 in
theorem k_count10 {A : AS}  (hC : CR d A) (hO : OK A) (hQ : ∀ d', cfr d d' → CR d' A → Q (some (.int (vCount A 10))) S1 d') : mC G mX10_count [.ref 0, .int 10] S1 d Q := by
  rw [show vCount A 10 = cks (a_s A) 0 8 from by unfold vCount; rw [if_neg (by decide), if_neg (by decide), if_neg (by decide), if_neg (by decide), if_neg (by decide), if_neg (by decide), if_neg (by decide), if_neg (by decide), if_neg (by decide), if_neg (by decide), if_pos rfl]] at hQ
  refine mC_of (by decide +kernel) ⟨_, rfl⟩ (Nat.le_of_ble_eq_true rfl) ?_
  show mM G mX10_count 0 [some (.ref 0), some (.int 10)] [] S1 d (0, 0) Q
  refine m_iload_n (pc' := 1) dX10_count_0 rfl rfl ?_
  refine m_tableIn (tgt := 172) (off := 171) dX10_count_1 (by decide) (by decide) rfl (by decide) ?_
  refine m_aload_n (pc' := 173) dX10_count_172 rfl rfl ?_
  refine m_getR (pc' := 176) fa_X10_count_10 dX10_count_173 (by decide) rfl rfl rfl rfl ?_
  refine m_getR (pc' := 179) fa_X10_count_64 dX10_count_176 (by decide) rfl rfl rfl rfl ?_
  refine m_iconst (pc' := 180) (v := 0) dX10_count_179 (by decide) rfl ?_
  refine m_callV (pc' := 183) (A := [.int 0]) (rest := []) (b := 2) cl_X10_count_210 dX10_count_180 rfl rfl (Nat.le_of_ble_eq_true rfl) ⟨by decide, by decide⟩ (by decide) rfl rfl rfl rfl ?_
  refine c_sourcesOf (s := a_s A) (by decide) hC.1.1 ?_
  show mM G mX10_count 183 [some (.ref 0), some (.int 10)] [.int (cks (a_s A) 0 8)] S1 d (0, 0) Q
  refine m_iret dX10_count_183 rfl rfl ⟨by decide, by decide⟩ ?_
  exact hQ _ fr.rfl hC
set_option maxHeartbeats 4000000 in
set_option maxRecDepth 100000 in
theorem k_count11 {A : AS}  (hC : CR d A) (hO : OK A) (hQ : ∀ d', cfr d d' → CR d' A → Q (some (.int (vCount A 11))) S1 d') : mC G mX10_count [.ref 0, .int 11] S1 d Q := by
  rw [show vCount A 11 = cks (a_s A) 1 8 from by unfold vCount; rw [if_neg (by decide), if_neg (by decide), if_neg (by decide), if_neg (by decide), if_neg (by decide), if_neg (by decide), if_neg (by decide), if_neg (by decide), if_neg (by decide), if_neg (by decide), if_neg (by decide), if_pos rfl]] at hQ
  refine mC_of (by decide +kernel) ⟨_, rfl⟩ (Nat.le_of_ble_eq_true rfl) ?_
  show mM G mX10_count 0 [some (.ref 0), some (.int 11)] [] S1 d (0, 0) Q
  refine m_iload_n (pc' := 1) dX10_count_0 rfl rfl ?_
  refine m_tableIn (tgt := 184) (off := 183) dX10_count_1 (by decide) (by decide) rfl (by decide) ?_
  refine m_aload_n (pc' := 185) dX10_count_184 rfl rfl ?_
  refine m_getR (pc' := 188) fa_X10_count_10 dX10_count_185 (by decide) rfl rfl rfl rfl ?_
  refine m_getR (pc' := 191) fa_X10_count_64 dX10_count_188 (by decide) rfl rfl rfl rfl ?_
  refine m_iconst (pc' := 192) (v := 1) dX10_count_191 (by decide) rfl ?_
  refine m_callV (pc' := 195) (A := [.int 1]) (rest := []) (b := 2) cl_X10_count_210 dX10_count_192 rfl rfl (Nat.le_of_ble_eq_true rfl) ⟨by decide, by decide⟩ (by decide) rfl rfl rfl rfl ?_
  refine c_sourcesOf (s := a_s A) (by decide) hC.1.1 ?_
  show mM G mX10_count 195 [some (.ref 0), some (.int 11)] [.int (cks (a_s A) 1 8)] S1 d (0, 0) Q
  refine m_iret dX10_count_195 rfl rfl ⟨by decide, by decide⟩ ?_
  exact hQ _ fr.rfl hC
set_option maxHeartbeats 4000000 in
set_option maxRecDepth 100000 in
theorem k_count12 {A : AS}  (hC : CR d A) (hO : OK A) (hQ : ∀ d', cfr d d' → CR d' A → Q (some (.int (vCount A 12))) S1 d') : mC G mX10_count [.ref 0, .int 12] S1 d Q := by
  rw [show vCount A 12 = cks (a_s A) 2 8 from by unfold vCount; rw [if_neg (by decide), if_neg (by decide), if_neg (by decide), if_neg (by decide), if_neg (by decide), if_neg (by decide), if_neg (by decide), if_neg (by decide), if_neg (by decide), if_neg (by decide), if_neg (by decide), if_neg (by decide), if_pos rfl]] at hQ
  refine mC_of (by decide +kernel) ⟨_, rfl⟩ (Nat.le_of_ble_eq_true rfl) ?_
  show mM G mX10_count 0 [some (.ref 0), some (.int 12)] [] S1 d (0, 0) Q
  refine m_iload_n (pc' := 1) dX10_count_0 rfl rfl ?_
  refine m_tableIn (tgt := 196) (off := 195) dX10_count_1 (by decide) (by decide) rfl (by decide) ?_
  refine m_aload_n (pc' := 197) dX10_count_196 rfl rfl ?_
  refine m_getR (pc' := 200) fa_X10_count_10 dX10_count_197 (by decide) rfl rfl rfl rfl ?_
  refine m_getR (pc' := 203) fa_X10_count_64 dX10_count_200 (by decide) rfl rfl rfl rfl ?_
  refine m_iconst (pc' := 204) (v := 2) dX10_count_203 (by decide) rfl ?_
  refine m_callV (pc' := 207) (A := [.int 2]) (rest := []) (b := 2) cl_X10_count_210 dX10_count_204 rfl rfl (Nat.le_of_ble_eq_true rfl) ⟨by decide, by decide⟩ (by decide) rfl rfl rfl rfl ?_
  refine c_sourcesOf (s := a_s A) (by decide) hC.1.1 ?_
  show mM G mX10_count 207 [some (.ref 0), some (.int 12)] [.int (cks (a_s A) 2 8)] S1 d (0, 0) Q
  refine m_iret dX10_count_207 rfl rfl ⟨by decide, by decide⟩ ?_
  exact hQ _ fr.rfl hC
set_option maxHeartbeats 4000000 in
set_option maxRecDepth 100000 in
theorem k_countX {A : AS} {w : Int32} (hC : CR d A) (w0 : ¬ w = 0) (w1 : ¬ w = 1) (w2 : ¬ w = 2) (w3 : ¬ w = 3) (w4 : ¬ w = 4) (w5 : ¬ w = 5) (w6 : ¬ w = 6) (w7 : ¬ w = 7) (w8 : ¬ w = 8) (w9 : ¬ w = 9) (w10 : ¬ w = 10) (w11 : ¬ w = 11) (w12 : ¬ w = 12) (hQ : ∀ d', cfr d d' → CR d' A → Q (some (.int (vCount A w))) S1 d') : mC G mX10_count [.ref 0, .int w] S1 d Q := by
  rw [show vCount A w = eI from by unfold vCount; rw [if_neg w0, if_neg w1, if_neg w2, if_neg w3, if_neg w4, if_neg w5, if_neg w6, if_neg w7, if_neg w8, if_neg w9, if_neg w10, if_neg w11, if_neg w12]] at hQ
  refine mC_of (by decide +kernel) ⟨_, rfl⟩ (Nat.le_of_ble_eq_true rfl) ?_
  show mM G mX10_count 0 [some (.ref 0), some (.int w)] [] S1 d (0, 0) Q
  refine m_iload_n (pc' := 1) dX10_count_0 rfl rfl ?_
  refine m_tableOut (tgt := 208) dX10_count_1 (by have z0 := tI_ne w0; have y0 : ((0 : Int32)).toInt = 0 := (by decide); have z1 := tI_ne w1; have y1 : ((1 : Int32)).toInt = 1 := (by decide); have z2 := tI_ne w2; have y2 : ((2 : Int32)).toInt = 2 := (by decide); have z3 := tI_ne w3; have y3 : ((3 : Int32)).toInt = 3 := (by decide); have z4 := tI_ne w4; have y4 : ((4 : Int32)).toInt = 4 := (by decide); have z5 := tI_ne w5; have y5 : ((5 : Int32)).toInt = 5 := (by decide); have z6 := tI_ne w6; have y6 : ((6 : Int32)).toInt = 6 := (by decide); have z7 := tI_ne w7; have y7 : ((7 : Int32)).toInt = 7 := (by decide); have z8 := tI_ne w8; have y8 : ((8 : Int32)).toInt = 8 := (by decide); have z9 := tI_ne w9; have y9 : ((9 : Int32)).toInt = 9 := (by decide); have z10 := tI_ne w10; have y10 : ((10 : Int32)).toInt = 10 := (by decide); have z11 := tI_ne w11; have y11 : ((11 : Int32)).toInt = 11 := (by decide); have z12 := tI_ne w12; have y12 : ((12 : Int32)).toInt = 12 := (by decide); omega) (by decide) ?_
  refine m_ldc (pc' := 210) dX10_count_208 kc_X10_count_59 rfl ?_
  refine m_iret dX10_count_210 rfl rfl ⟨by decide, by decide⟩ ?_
  exact hQ _ fr.rfl hC
theorem k_count {A : AS} {w : Int32} (hC : CR d A) (hO : OK A) (hQ : ∀ d', cfr d d' → CR d' A → Q (some (.int (vCount A w))) S1 d') : mC G mX10_count [.ref 0, .int w] S1 d Q := by
  by_cases w0 : w = 0
  · subst w0; exact k_count0 hC hO hQ
  by_cases w1 : w = 1
  · subst w1; exact k_count1 hC hO hQ
  by_cases w2 : w = 2
  · subst w2; exact k_count2 hC hO hQ
  by_cases w3 : w = 3
  · subst w3; exact k_count3 hC hO hQ
  by_cases w4 : w = 4
  · subst w4; exact k_count4 hC hO hQ
  by_cases w5 : w = 5
  · subst w5; exact k_count5 hC hO hQ
  by_cases w6 : w = 6
  · subst w6; exact k_count6 hC hO hQ
  by_cases w7 : w = 7
  · subst w7; exact k_count7 hC hO hQ
  by_cases w8 : w = 8
  · subst w8; exact k_count8 hC hO hQ
  by_cases w9 : w = 9
  · subst w9; exact k_count9 hC hO hQ
  by_cases w10 : w = 10
  · subst w10; exact k_count10 hC hO hQ
  by_cases w11 : w = 11
  · subst w11; exact k_count11 hC hO hQ
  by_cases w12 : w = 12
  · subst w12; exact k_count12 hC hO hQ
  exact k_countX hC w0 w1 w2 w3 w4 w5 w6 w7 w8 w9 w10 w11 w12 hQ
set_option maxHeartbeats 4000000 in
set_option maxRecDepth 100000 in
theorem k_value {A : AS} {c t : Int32} (hC : CR d A) (hO : OK A) (hQ : ∀ d', cfr d d' → CR d' A → Q (some (.int (vValue A c t))) S1 d') : mC G mX10_value [.ref 0, .int c, .int t] S1 d Q := by
  by_cases h1 : bin c 0 7 = 0
  · skip
    rw [show vValue A c t = eI from if_pos (Or.inl h1)] at hQ
    refine mC_of (by decide +kernel) ⟨_, rfl⟩ (Nat.le_of_ble_eq_true rfl) ?_
    show mM G mX10_value 0 [some (.ref 0), some (.int c), some (.int t)] [] S1 d (0, 0) Q
    refine m_iload_n (pc' := 1) dX10_value_0 rfl rfl ?_
    refine m_callS (pc' := 4) (A := [.int c]) (rest := []) cl_X10_value_51 dX10_value_1 rfl rfl (Nat.le_of_ble_eq_true rfl) ⟨by decide, by decide⟩ rfl rfl ?_
    refine c_isCh ?_
    show mM G mX10_value 4 [some (.ref 0), some (.int c), some (.int t)] [.int (bin c 0 7)] S1 d (0, 0) Q
    rw [show (bin c 0 7) = 0 from h1]
    refine m_if_eq (tgt := 18) (pc' := 7) dX10_value_4 (by decide) rfl (fun h4 => ?_) (fun h4 => absurd h4 (by decide))
    refine m_ldc (pc' := 20) dX10_value_18 kc_X10_value_59 rfl ?_
    refine m_iret dX10_value_20 rfl rfl ⟨by decide, by decide⟩ ?_
    exact hQ _ fr.rfl hC
  by_cases h2 : bin t 0 9999 = 0
  · skip
    rw [show vValue A c t = eI from if_pos (Or.inr h2)] at hQ
    refine mC_of (by decide +kernel) ⟨_, rfl⟩ (Nat.le_of_ble_eq_true rfl) ?_
    show mM G mX10_value 0 [some (.ref 0), some (.int c), some (.int t)] [] S1 d (0, 0) Q
    refine m_iload_n (pc' := 1) dX10_value_0 rfl rfl ?_
    refine m_callS (pc' := 4) (A := [.int c]) (rest := []) cl_X10_value_51 dX10_value_1 rfl rfl (Nat.le_of_ble_eq_true rfl) ⟨by decide, by decide⟩ rfl rfl ?_
    refine c_isCh ?_
    show mM G mX10_value 4 [some (.ref 0), some (.int c), some (.int t)] [.int (bin c 0 7)] S1 d (0, 0) Q
    rw [show (bin c 0 7) = 1 from bin_1 h1]
    refine m_if_eq (tgt := 18) (pc' := 7) dX10_value_4 (by decide) rfl (fun h4 => absurd h4 (by decide)) (fun h4 => ?_)
    refine m_iload_n (pc' := 8) dX10_value_7 rfl rfl ?_
    refine m_iconst (pc' := 9) (v := 0) dX10_value_8 (by decide) rfl ?_
    refine m_sipush (pc' := 12) (v := 9999) dX10_value_9 (by decide) rfl ?_
    refine m_callS (pc' := 15) (A := [.int t, .int 0, .int 9999]) (rest := []) cl_X10_value_81 dX10_value_12 rfl rfl (Nat.le_of_ble_eq_true rfl) ⟨by decide, by decide⟩ rfl rfl ?_
    refine c_within ?_
    show mM G mX10_value 15 [some (.ref 0), some (.int c), some (.int t)] [.int (bin t 0 9999)] S1 d (0, 0) Q
    rw [show (bin t 0 9999) = 0 from h2]
    refine m_if_ne (tgt := 21) (pc' := 18) dX10_value_15 (by decide) rfl (fun h15 => absurd h15 (by decide)) (fun h15 => ?_)
    refine m_ldc (pc' := 20) dX10_value_18 kc_X10_value_59 rfl ?_
    refine m_iret dX10_value_20 rfl rfl ⟨by decide, by decide⟩ ?_
    exact hQ _ fr.rfl hC
  obtain ⟨c, hc, rfl⟩ := bin_t (b := 7) (by decide) h1
  obtain ⟨t, ht, rfl⟩ := bin_t (b := 9999) (by decide) h2
  rw [show vValue A (nI c) (nI t) = pvl (a_s A) c (nI t) from by unfold vValue pvl; rw [if_neg (not_or.mpr ⟨h1, h2⟩), nn_nI (by omega), if_neg (by omega), if_neg (by omega)]] at hQ
  refine mC_of (by decide +kernel) ⟨_, rfl⟩ (Nat.le_of_ble_eq_true rfl) ?_
  show mM G mX10_value 0 [some (.ref 0), some (.int (nI c)), some (.int (nI t))] [] S1 d (0, 0) Q
  refine m_iload_n (pc' := 1) dX10_value_0 rfl rfl ?_
  refine m_callS (pc' := 4) (A := [.int (nI c)]) (rest := []) cl_X10_value_51 dX10_value_1 rfl rfl (Nat.le_of_ble_eq_true rfl) ⟨by decide, by decide⟩ rfl rfl ?_
  refine c_isCh ?_
  show mM G mX10_value 4 [some (.ref 0), some (.int (nI c)), some (.int (nI t))] [.int (bin (nI c) 0 7)] S1 d (0, 0) Q
  rw [show (bin (nI c) 0 7) = 1 from bin_1 h1]
  refine m_if_eq (tgt := 18) (pc' := 7) dX10_value_4 (by decide) rfl (fun h4 => absurd h4 (by decide)) (fun h4 => ?_)
  refine m_iload_n (pc' := 8) dX10_value_7 rfl rfl ?_
  refine m_iconst (pc' := 9) (v := 0) dX10_value_8 (by decide) rfl ?_
  refine m_sipush (pc' := 12) (v := 9999) dX10_value_9 (by decide) rfl ?_
  refine m_callS (pc' := 15) (A := [.int (nI t), .int 0, .int 9999]) (rest := []) cl_X10_value_81 dX10_value_12 rfl rfl (Nat.le_of_ble_eq_true rfl) ⟨by decide, by decide⟩ rfl rfl ?_
  refine c_within ?_
  show mM G mX10_value 15 [some (.ref 0), some (.int (nI c)), some (.int (nI t))] [.int (bin (nI t) 0 9999)] S1 d (0, 0) Q
  rw [show (bin (nI t) 0 9999) = 1 from bin_1 h2]
  refine m_if_ne (tgt := 21) (pc' := 18) dX10_value_15 (by decide) rfl (fun h15 => ?_) (fun h15 => absurd h15 (by decide))
  refine m_aload_n (pc' := 22) dX10_value_21 rfl rfl ?_
  refine m_getR (pc' := 25) fa_X10_value_10 dX10_value_22 (by decide) rfl rfl rfl rfl ?_
  refine m_getR (pc' := 28) fa_X10_value_64 dX10_value_25 (by decide) rfl rfl rfl rfl ?_
  refine m_iload_n (pc' := 29) dX10_value_28 rfl rfl ?_
  refine m_iload_n (pc' := 30) dX10_value_29 rfl rfl ?_
  refine m_callV (pc' := 33) (A := [.int (nI c), .int (nI t)]) (rest := []) (b := 2) cl_X10_value_223 dX10_value_30 rfl rfl (Nat.le_of_ble_eq_true rfl) ⟨by decide, by decide⟩ (by decide) rfl rfl rfl rfl ?_
  refine c_valueAt (p := c) (t := t) (s := a_s A) (by decide) hC.1.1 (by omega) hO.c (by omega) ?_
  show mM G mX10_value 33 [some (.ref 0), some (.int (nI c)), some (.int (nI t))] [.int (pvl (a_s A) c (nI t))] S1 d (0, 0) Q
  refine m_iret dX10_value_33 rfl rfl ⟨by decide, by decide⟩ ?_
  exact hQ _ fr.rfl hC
set_option maxHeartbeats 4000000 in
set_option maxRecDepth 100000 in
theorem k_held0 {A : AS}  (hC : CR d A)  (hQ : ∀ d', cfr d d' → CR d' A → Q (some (.int (vHeld A 0))) S1 d') : mC G mX10_held [.ref 0, .int 0] S1 d Q := by
  rw [show vHeld A 0 = FP.f2i (a_h A) from by unfold vHeld; rw [if_neg (by decide), if_pos rfl]] at hQ
  refine mC_of (by decide +kernel) ⟨_, rfl⟩ (Nat.le_of_ble_eq_true rfl) ?_
  show mM G mX10_held 0 [some (.ref 0), some (.int 0)] [] S1 d (0, 0) Q
  refine m_iload_n (pc' := 1) dX10_held_0 rfl rfl ?_
  refine m_tableIn (tgt := 28) (off := 27) dX10_held_1 (by decide) (by decide) rfl (by decide) ?_
  refine m_aload_n (pc' := 29) dX10_held_28 rfl rfl ?_
  refine m_getR (pc' := 32) fa_X10_held_10 dX10_held_29 (by decide) rfl rfl rfl rfl ?_
  refine m_getF (pc' := 35) fa_X10_held_136 dX10_held_32 (by decide) rfl rfl rfl ?_
  rw [show (d.2 1 6) = (a_h A) from hC.1.2.2.2.2.2.2]
  refine m_f2i (pc' := 36) dX10_held_35 rfl ?_
  refine m_iret dX10_held_36 rfl rfl ⟨by decide, by decide⟩ ?_
  exact hQ _ fr.rfl hC
set_option maxHeartbeats 4000000 in
set_option maxRecDepth 100000 in
theorem k_held1 {A : AS}  (hC : CR d A)  (hQ : ∀ d', cfr d d' → CR d' A → Q (some (.int (vHeld A 1))) S1 d') : mC G mX10_held [.ref 0, .int 1] S1 d Q := by
  rw [show vHeld A 1 = rdb (a_h A) (a_s A 41) (a_s A 42) from by unfold vHeld; rw [if_neg (by decide), if_neg (by decide), if_pos rfl]] at hQ
  refine mC_of (by decide +kernel) ⟨_, rfl⟩ (Nat.le_of_ble_eq_true rfl) ?_
  show mM G mX10_held 0 [some (.ref 0), some (.int 1)] [] S1 d (0, 0) Q
  refine m_iload_n (pc' := 1) dX10_held_0 rfl rfl ?_
  refine m_tableIn (tgt := 37) (off := 36) dX10_held_1 (by decide) (by decide) rfl (by decide) ?_
  refine m_aload_n (pc' := 38) dX10_held_37 rfl rfl ?_
  refine m_getR (pc' := 41) fa_X10_held_10 dX10_held_38 (by decide) rfl rfl rfl rfl ?_
  refine m_getR (pc' := 44) fa_X10_held_64 dX10_held_41 (by decide) rfl rfl rfl rfl ?_
  refine m_aload_n (pc' := 45) dX10_held_44 rfl rfl ?_
  refine m_getR (pc' := 48) fa_X10_held_10 dX10_held_45 (by decide) rfl rfl rfl rfl ?_
  refine m_getF (pc' := 51) fa_X10_held_136 dX10_held_48 (by decide) rfl rfl rfl ?_
  rw [show (d.2 1 6) = (a_h A) from hC.1.2.2.2.2.2.2]
  refine m_callV (pc' := 54) (A := [.float (a_h A)]) (rest := []) (b := 2) cl_X10_held_229 dX10_held_51 rfl rfl (Nat.le_of_ble_eq_true rfl) ⟨by decide, by decide⟩ (by decide) rfl rfl rfl rfl ?_
  refine c_readingOf (s := a_s A) (by decide) hC.1.1 ?_
  show mM G mX10_held 54 [some (.ref 0), some (.int 1)] [.int (rdb (a_h A) (a_s A 41) (a_s A 42))] S1 d (0, 0) Q
  refine m_iret dX10_held_54 rfl rfl ⟨by decide, by decide⟩ ?_
  exact hQ _ fr.rfl hC
set_option maxHeartbeats 4000000 in
set_option maxRecDepth 100000 in
theorem k_held2 {A : AS}  (hC : CR d A)  (hQ : ∀ d', cfr d d' → CR d' A → Q (some (.int (vHeld A 2))) S1 d') : mC G mX10_held [.ref 0, .int 2] S1 d Q := by
  rw [show vHeld A 2 = FP.f2i (FP.fmul (a_h A) 1132462080) from by unfold vHeld; rw [if_neg (by decide), if_neg (by decide), if_neg (by decide)]] at hQ
  refine mC_of (by decide +kernel) ⟨_, rfl⟩ (Nat.le_of_ble_eq_true rfl) ?_
  show mM G mX10_held 0 [some (.ref 0), some (.int 2)] [] S1 d (0, 0) Q
  refine m_iload_n (pc' := 1) dX10_held_0 rfl rfl ?_
  refine m_tableIn (tgt := 55) (off := 54) dX10_held_1 (by decide) (by decide) rfl (by decide) ?_
  refine m_aload_n (pc' := 56) dX10_held_55 rfl rfl ?_
  refine m_getR (pc' := 59) fa_X10_held_10 dX10_held_56 (by decide) rfl rfl rfl rfl ?_
  refine m_getF (pc' := 62) fa_X10_held_136 dX10_held_59 (by decide) rfl rfl rfl ?_
  rw [show (d.2 1 6) = (a_h A) from hC.1.2.2.2.2.2.2]
  refine m_ldcf (pc' := 64) dX10_held_62 kc_X10_held_233 rfl ?_
  refine m_fmul (pc' := 65) dX10_held_64 rfl ?_
  refine m_f2i (pc' := 66) dX10_held_65 rfl ?_
  refine m_iret dX10_held_66 rfl rfl ⟨by decide, by decide⟩ ?_
  exact hQ _ fr.rfl hC
set_option maxHeartbeats 4000000 in
set_option maxRecDepth 100000 in
theorem k_heldX {A : AS} {w : Int32} (hC : CR d A) (h1 : bin w 0 2 = 0) (w0 : ¬ w = 0) (w1 : ¬ w = 1) (w2 : ¬ w = 2) (hQ : ∀ d', cfr d d' → CR d' A → Q (some (.int (vHeld A w))) S1 d') : mC G mX10_held [.ref 0, .int w] S1 d Q := by
  rw [show vHeld A w = eI from if_pos h1] at hQ
  refine mC_of (by decide +kernel) ⟨_, rfl⟩ (Nat.le_of_ble_eq_true rfl) ?_
  show mM G mX10_held 0 [some (.ref 0), some (.int w)] [] S1 d (0, 0) Q
  refine m_iload_n (pc' := 1) dX10_held_0 rfl rfl ?_
  refine m_tableOut (tgt := 67) dX10_held_1 (by have z0 := tI_ne w0; have y0 : ((0 : Int32)).toInt = 0 := (by decide); have z1 := tI_ne w1; have y1 : ((1 : Int32)).toInt = 1 := (by decide); have z2 := tI_ne w2; have y2 : ((2 : Int32)).toInt = 2 := (by decide); omega) (by decide) ?_
  refine m_ldc (pc' := 69) dX10_held_67 kc_X10_held_59 rfl ?_
  refine m_iret dX10_held_69 rfl rfl ⟨by decide, by decide⟩ ?_
  exact hQ _ fr.rfl hC
theorem k_held {A : AS} {w : Int32} (hC : CR d A) (hQ : ∀ d', cfr d d' → CR d' A → Q (some (.int (vHeld A w))) S1 d') : mC G mX10_held [.ref 0, .int w] S1 d Q := by
  by_cases w0 : w = 0
  · subst w0; exact k_held0 hC hQ
  by_cases w1 : w = 1
  · subst w1; exact k_held1 hC hQ
  by_cases w2 : w = 2
  · subst w2; exact k_held2 hC hQ
  refine k_heldX hC ?_ w0 w1 w2 hQ
  refine Classical.byContradiction (fun h => ?_)
  obtain ⟨j, hj, e⟩ := bin_t (b := 2) (by decide) h
  rcases (show j = 0 ∨ j = 1 ∨ j = 2 by omega) with rfl | rfl | rfl
  · exact w0 e
  · exact w1 e
  · exact w2 e
set_option maxHeartbeats 4000000 in
set_option maxRecDepth 100000 in
theorem k_undo {A : AS}  (hC : CR d A) (hO : OK A) (hQ : ∀ d', cfr d d' → CR d' (opUndo A).2 → Q (some (.int (opUndo A).1)) S1 d') : mC G mX10_undo [.ref 0] S1 d Q := by
  have hk : d.1 32 2 = nI (a_m A) := by obtain ⟨nx, -, -, q, -⟩ := hC.2.1; exact q
  by_cases h1 : a_m A = 0
  · skip
    rw [show opUndo A = (eS, A) from if_pos h1] at hQ
    refine mC_of (by decide +kernel) ⟨_, rfl⟩ (Nat.le_of_ble_eq_true rfl) ?_
    show mM G mX10_undo 0 [some (.ref 0)] [] S1 d (0, 0) Q
    refine m_aload_n (pc' := 1) dX10_undo_0 rfl rfl ?_
    refine m_getR (pc' := 4) fa_X10_undo_19 dX10_undo_1 (by decide) rfl rfl rfl rfl ?_
    refine m_getI (pc' := 7) fa_X10_undo_169 dX10_undo_4 (by decide) rfl rfl rfl ?_
    rw [show (d.1 32 2) = 0 from hk.trans (by rw [h1]; rfl)]
    refine m_if_ne (tgt := 13) (pc' := 10) dX10_undo_7 (by decide) rfl (fun h7 => absurd h7 (by decide)) (fun h7 => ?_)
    refine m_ldc (pc' := 12) dX10_undo_10 kc_X10_undo_129 rfl ?_
    refine m_iret dX10_undo_12 rfl rfl ⟨by decide, by decide⟩ ?_
    exact hQ _ fr.rfl hC
  obtain ⟨m, hm⟩ : ∃ m, a_m A = m + 1 := ⟨a_m A - 1, by omega⟩
  have hm5 := hO.2.1
  have hv : (a_v A (408 * m + 254) = 0 ∨ a_v A (408 * m + 254) = 1) ∧ (a_v A (408 * m + 331) = 0 ∨ a_v A (408 * m + 331) = 1) := by
    have q := (hO.2.2.1 m (by omega)).2.2.2.2.1
    exact ⟨(q 0 (by decide)).imp_right (fun q => q.1), (q 1 (by decide)).imp_right (fun q => q.1)⟩
  rw [show opUndo A = (nI m, (cpr (fun j => a_v A (408 * m + j)) (a_s A), m, a_v A, a_c A, a_c A m, a_t A, a_n A)) from by unfold opUndo; rw [if_neg h1, hm]; rfl] at hQ
  refine mC_of (by decide +kernel) ⟨_, rfl⟩ (Nat.le_of_ble_eq_true rfl) ?_
  show mM G mX10_undo 0 [some (.ref 0)] [] S1 d (0, 0) Q
  refine m_aload_n (pc' := 1) dX10_undo_0 rfl rfl ?_
  refine m_getR (pc' := 4) fa_X10_undo_19 dX10_undo_1 (by decide) rfl rfl rfl rfl ?_
  refine m_getI (pc' := 7) fa_X10_undo_169 dX10_undo_4 (by decide) rfl rfl rfl ?_
  rw [show (d.1 32 2) = (nI (m + 1)) from hk.trans (by rw [hm])]
  refine m_if_ne (tgt := 13) (pc' := 10) dX10_undo_7 (by decide) rfl (fun h7 => ?_) (fun h7 => absurd h7 (nI_ne0 (by omega) (by omega)))
  refine m_aload_n (pc' := 14) dX10_undo_13 rfl rfl ?_
  refine m_getR (pc' := 17) fa_X10_undo_19 dX10_undo_14 (by decide) rfl rfl rfl rfl ?_
  refine m_aload_n (pc' := 18) dX10_undo_17 rfl rfl ?_
  refine m_getR (pc' := 21) fa_X10_undo_10 dX10_undo_18 (by decide) rfl rfl rfl rfl ?_
  refine m_callV (pc' := 24) (A := [.ref 1]) (rest := []) (b := 32) cl_X10_undo_172 dX10_undo_21 rfl rfl (Nat.le_of_ble_eq_true rfl) ⟨by decide, by decide⟩ (by decide) rfl rfl rfl rfl ?_
  refine c_back (m := m) hm hC.2.1 hv.1 hv.2 (fun f f0 fT fH => ?_)
  show mM G mX10_undo 24 [some (.ref 0)] [] S1 f (0, 0) Q
  refine m_aload_n (pc' := 25) dX10_undo_24 rfl rfl ?_
  refine m_getR (pc' := 28) fa_X10_undo_19 dX10_undo_25 (by decide) rfl rfl rfl rfl ?_
  refine m_getI (pc' := 31) fa_X10_undo_169 dX10_undo_28 (by decide) rfl rfl rfl ?_
  rw [show (f.1 32 2) = (nI m) from (by obtain ⟨nx, -, -, q, -⟩ := fH (a_s A) 0 (a_t A) 0; exact q)]
  refine m_iret dX10_undo_31 rfl rfl ⟨by decide, by decide⟩ ?_
  have fC : CR f (cpr (fun j => a_v A (408 * m + j)) (a_s A), m, a_v A, a_c A, a_c A m, a_t A, a_n A) := ⟨TR_cg fT (fun j hj => (if_pos hj : cpr (fun j => a_v A (408 * m + j)) (a_s A) j = a_v A (408 * m + j))), fH _ _ _ _, (f0.1 205 1 (by omega)).trans hC.2.2.1, fun j hj => (f0.1 206 j (by omega)).trans (hC.2.2.2 j hj)⟩
  exact hQ f (f0.mono (by intro x j; omega) (by intro x j; omega)) fC
end CLS11
