/-! THE LAW'S OWN METHODS (2): act -/
section LAWA
variable {G : GP} {Q : Option Value → Sh → Dt → Prop} {d : Dt}
set_option maxHeartbeats 4000000 in
set_option maxRecDepth 100000 in
theorem la_0 {A : AS} {y : Int32} (hC : CR d A) (hO : OK A) (hw : y &&& 15 = 0) (hQ : ∀ d', CR d' (actL A y).2 → Q (some (.int (actL A y).1)) S1 d') : mM G mL_act 76 [some (.ref 0), some (.int y), some (.int (y >>> (4 &&& 31)))] [] S1 d (0, 0) Q := by
  refine m_aload_n (pc' := 77) dL_act_76 rfl rfl ?_
  refine m_iload_n (pc' := 78) dL_act_77 rfl rfl ?_
  refine m_bipush (pc' := 80) (v := 8) dL_act_78 (by decide) rfl ?_
  refine m_callS (pc' := 83) (A := [.int (y >>> (4 &&& 31)), .int 8]) (rest := [.ref 0]) cl_L_act_34 dL_act_80 rfl rfl (Nat.le_of_ble_eq_true rfl) ⟨by decide, by decide⟩ rfl rfl ?_
  refine lw_low (by decide) ?_
  show mM G mL_act 83 [some (.ref 0), some (.int y), some (.int (y >>> (4 &&& 31)))] [.int (lo3 (y >>> (4 &&& 31)) 8), .ref 0] S1 d (0, 0) Q
  refine m_iconst (pc' := 84) (v := 0) dL_act_83 (by decide) rfl ?_
  refine m_iload_n (pc' := 85) dL_act_84 rfl rfl ?_
  refine m_bipush (pc' := 87) (v := 9) dL_act_85 (by decide) rfl ?_
  refine m_imul (pc' := 88) dL_act_87 rfl ?_
  refine m_sipush (pc' := 91) (v := 4096) dL_act_88 (by decide) rfl ?_
  refine m_callS (pc' := 94) (A := [.int (y * 9), .int 4096]) (rest := [.int 0, .int (lo3 (y >>> (4 &&& 31)) 8), .ref 0]) cl_L_act_34 dL_act_91 rfl rfl (Nat.le_of_ble_eq_true rfl) ⟨by decide, by decide⟩ rfl rfl ?_
  refine lw_low (by decide) ?_
  show mM G mL_act 94 [some (.ref 0), some (.int y), some (.int (y >>> (4 &&& 31)))] [.int (lo3 (y * 9) 4096), .int 0, .int (lo3 (y >>> (4 &&& 31)) 8), .ref 0] S1 d (0, 0) Q
  refine m_iconst (pc' := 95) (v := 0) dL_act_94 (by decide) rfl ?_
  refine m_iconst (pc' := 96) (v := 0) dL_act_95 (by decide) rfl ?_
  refine m_callV (pc' := 99) (A := [.int (lo3 (y >>> (4 &&& 31)) 8), .int 0, .int (lo3 (y * 9) 4096), .int 0, .int 0]) (rest := []) (b := 0) cl_L_act_39 dL_act_96 rfl rfl (Nat.le_of_ble_eq_true rfl) ⟨by decide, by decide⟩ (by decide) rfl rfl rfl rfl ?_
  refine k_setSource hC hO (fun e1 fe1 ce1 => ?_)
  show mM G mL_act 99 [some (.ref 0), some (.int y), some (.int (y >>> (4 &&& 31)))] [.int ((opSetSource A (lo3 (y >>> (4 &&& 31)) 8) 0 (lo3 (y * 9) 4096) 0 0).1)] S1 e1 (0, 0) Q
  refine m_iret dL_act_99 rfl rfl ⟨by decide, by decide⟩ ?_
  have e9 : actL A y = (opSetSource A (lo3 (y >>> (4 &&& 31)) 8) 0 (lo3 (y * 9) 4096) 0 0) := by unfold actL; rw [if_pos hw]
  rw [e9] at hQ
  exact hQ _ ce1
set_option maxHeartbeats 4000000 in
set_option maxRecDepth 100000 in
theorem la_1 {A : AS} {y : Int32} (hC : CR d A) (hO : OK A) (hw : y &&& 15 = 1) (hQ : ∀ d', CR d' (actL A y).2 → Q (some (.int (actL A y).1)) S1 d') : mM G mL_act 100 [some (.ref 0), some (.int y), some (.int (y >>> (4 &&& 31)))] [] S1 d (0, 0) Q := by
  refine m_aload_n (pc' := 101) dL_act_100 rfl rfl ?_
  refine m_iload_n (pc' := 102) dL_act_101 rfl rfl ?_
  refine m_bipush (pc' := 104) (v := 8) dL_act_102 (by decide) rfl ?_
  refine m_callS (pc' := 107) (A := [.int (y >>> (4 &&& 31)), .int 8]) (rest := [.ref 0]) cl_L_act_34 dL_act_104 rfl rfl (Nat.le_of_ble_eq_true rfl) ⟨by decide, by decide⟩ rfl rfl ?_
  refine lw_low (by decide) ?_
  show mM G mL_act 107 [some (.ref 0), some (.int y), some (.int (y >>> (4 &&& 31)))] [.int (lo3 (y >>> (4 &&& 31)) 8), .ref 0] S1 d (0, 0) Q
  refine m_iconst (pc' := 108) (v := 1) dL_act_107 (by decide) rfl ?_
  refine m_iload_n (pc' := 109) dL_act_108 rfl rfl ?_
  refine m_bipush (pc' := 111) (v := 9) dL_act_109 (by decide) rfl ?_
  refine m_imul (pc' := 112) dL_act_111 rfl ?_
  refine m_sipush (pc' := 115) (v := 4096) dL_act_112 (by decide) rfl ?_
  refine m_callS (pc' := 118) (A := [.int (y * 9), .int 4096]) (rest := [.int 1, .int (lo3 (y >>> (4 &&& 31)) 8), .ref 0]) cl_L_act_34 dL_act_115 rfl rfl (Nat.le_of_ble_eq_true rfl) ⟨by decide, by decide⟩ rfl rfl ?_
  refine lw_low (by decide) ?_
  show mM G mL_act 118 [some (.ref 0), some (.int y), some (.int (y >>> (4 &&& 31)))] [.int (lo3 (y * 9) 4096), .int 1, .int (lo3 (y >>> (4 &&& 31)) 8), .ref 0] S1 d (0, 0) Q
  refine m_iload_n (pc' := 119) dL_act_118 rfl rfl ?_
  refine m_iconst (pc' := 120) (v := 3) dL_act_119 (by decide) rfl ?_
  refine m_ishr (pc' := 121) dL_act_120 rfl ?_
  refine m_sipush (pc' := 124) (v := 129) dL_act_121 (by decide) rfl ?_
  refine m_callS (pc' := 127) (A := [.int (y >>> (3 &&& 31)), .int 129]) (rest := [.int (lo3 (y * 9) 4096), .int 1, .int (lo3 (y >>> (4 &&& 31)) 8), .ref 0]) cl_L_act_34 dL_act_124 rfl rfl (Nat.le_of_ble_eq_true rfl) ⟨by decide, by decide⟩ rfl rfl ?_
  refine lw_low (by decide) ?_
  show mM G mL_act 127 [some (.ref 0), some (.int y), some (.int (y >>> (4 &&& 31)))] [.int (lo3 (y >>> (3 &&& 31)) 129), .int (lo3 (y * 9) 4096), .int 1, .int (lo3 (y >>> (4 &&& 31)) 8), .ref 0] S1 d (0, 0) Q
  refine m_bipush (pc' := 129) (v := 64) dL_act_127 (by decide) rfl ?_
  refine m_isub (pc' := 130) dL_act_129 rfl ?_
  refine m_iconst (pc' := 131) (v := 0) dL_act_130 (by decide) rfl ?_
  refine m_callV (pc' := 134) (A := [.int (lo3 (y >>> (4 &&& 31)) 8), .int 1, .int (lo3 (y * 9) 4096), .int ((lo3 (y >>> (3 &&& 31)) 129) - 64), .int 0]) (rest := []) (b := 0) cl_L_act_39 dL_act_131 rfl rfl (Nat.le_of_ble_eq_true rfl) ⟨by decide, by decide⟩ (by decide) rfl rfl rfl rfl ?_
  refine k_setSource hC hO (fun e1 fe1 ce1 => ?_)
  show mM G mL_act 134 [some (.ref 0), some (.int y), some (.int (y >>> (4 &&& 31)))] [.int ((opSetSource A (lo3 (y >>> (4 &&& 31)) 8) 1 (lo3 (y * 9) 4096) ((lo3 (y >>> (3 &&& 31)) 129) - 64) 0).1)] S1 e1 (0, 0) Q
  refine m_iret dL_act_134 rfl rfl ⟨by decide, by decide⟩ ?_
  have e9 : actL A y = (opSetSource A (lo3 (y >>> (4 &&& 31)) 8) 1 (lo3 (y * 9) 4096) ((lo3 (y >>> (3 &&& 31)) 129) - 64) 0) := by unfold actL; rw [if_neg (by rw [hw]; decide), if_pos hw]
  rw [e9] at hQ
  exact hQ _ ce1
set_option maxHeartbeats 4000000 in
set_option maxRecDepth 100000 in
theorem la_2 {A : AS} {y : Int32} (hC : CR d A) (hO : OK A) (hw : y &&& 15 = 2) (hQ : ∀ d', CR d' (actL A y).2 → Q (some (.int (actL A y).1)) S1 d') : mM G mL_act 135 [some (.ref 0), some (.int y), some (.int (y >>> (4 &&& 31)))] [] S1 d (0, 0) Q := by
  refine m_aload_n (pc' := 136) dL_act_135 rfl rfl ?_
  refine m_iload_n (pc' := 137) dL_act_136 rfl rfl ?_
  refine m_bipush (pc' := 139) (v := 8) dL_act_137 (by decide) rfl ?_
  refine m_callS (pc' := 142) (A := [.int (y >>> (4 &&& 31)), .int 8]) (rest := [.ref 0]) cl_L_act_34 dL_act_139 rfl rfl (Nat.le_of_ble_eq_true rfl) ⟨by decide, by decide⟩ rfl rfl ?_
  refine lw_low (by decide) ?_
  show mM G mL_act 142 [some (.ref 0), some (.int y), some (.int (y >>> (4 &&& 31)))] [.int (lo3 (y >>> (4 &&& 31)) 8), .ref 0] S1 d (0, 0) Q
  refine m_iconst (pc' := 143) (v := 2) dL_act_142 (by decide) rfl ?_
  refine m_iload_n (pc' := 144) dL_act_143 rfl rfl ?_
  refine m_bipush (pc' := 146) (v := 9) dL_act_144 (by decide) rfl ?_
  refine m_imul (pc' := 147) dL_act_146 rfl ?_
  refine m_sipush (pc' := 150) (v := 4096) dL_act_147 (by decide) rfl ?_
  refine m_callS (pc' := 153) (A := [.int (y * 9), .int 4096]) (rest := [.int 2, .int (lo3 (y >>> (4 &&& 31)) 8), .ref 0]) cl_L_act_34 dL_act_150 rfl rfl (Nat.le_of_ble_eq_true rfl) ⟨by decide, by decide⟩ rfl rfl ?_
  refine lw_low (by decide) ?_
  show mM G mL_act 153 [some (.ref 0), some (.int y), some (.int (y >>> (4 &&& 31)))] [.int (lo3 (y * 9) 4096), .int 2, .int (lo3 (y >>> (4 &&& 31)) 8), .ref 0] S1 d (0, 0) Q
  refine m_iload_n (pc' := 154) dL_act_153 rfl rfl ?_
  refine m_iconst (pc' := 155) (v := 5) dL_act_154 (by decide) rfl ?_
  refine m_imul (pc' := 156) dL_act_155 rfl ?_
  refine m_sipush (pc' := 159) (v := 4096) dL_act_156 (by decide) rfl ?_
  refine m_callS (pc' := 162) (A := [.int (y * 5), .int 4096]) (rest := [.int (lo3 (y * 9) 4096), .int 2, .int (lo3 (y >>> (4 &&& 31)) 8), .ref 0]) cl_L_act_34 dL_act_159 rfl rfl (Nat.le_of_ble_eq_true rfl) ⟨by decide, by decide⟩ rfl rfl ?_
  refine lw_low (by decide) ?_
  show mM G mL_act 162 [some (.ref 0), some (.int y), some (.int (y >>> (4 &&& 31)))] [.int (lo3 (y * 5) 4096), .int (lo3 (y * 9) 4096), .int 2, .int (lo3 (y >>> (4 &&& 31)) 8), .ref 0] S1 d (0, 0) Q
  refine m_iconst (pc' := 163) (v := 1) dL_act_162 (by decide) rfl ?_
  refine m_iload_n (pc' := 164) dL_act_163 rfl rfl ?_
  refine m_iconst (pc' := 165) (v := 4) dL_act_164 (by decide) rfl ?_
  refine m_ishr (pc' := 166) dL_act_165 rfl ?_
  refine m_bipush (pc' := 168) (v := 30) dL_act_166 (by decide) rfl ?_
  refine m_callS (pc' := 171) (A := [.int (y >>> (4 &&& 31)), .int 30]) (rest := [.int 1, .int (lo3 (y * 5) 4096), .int (lo3 (y * 9) 4096), .int 2, .int (lo3 (y >>> (4 &&& 31)) 8), .ref 0]) cl_L_act_34 dL_act_168 rfl rfl (Nat.le_of_ble_eq_true rfl) ⟨by decide, by decide⟩ rfl rfl ?_
  refine lw_low (by decide) ?_
  show mM G mL_act 171 [some (.ref 0), some (.int y), some (.int (y >>> (4 &&& 31)))] [.int (lo3 (y >>> (4 &&& 31)) 30), .int 1, .int (lo3 (y * 5) 4096), .int (lo3 (y * 9) 4096), .int 2, .int (lo3 (y >>> (4 &&& 31)) 8), .ref 0] S1 d (0, 0) Q
  refine m_iadd (pc' := 172) dL_act_171 rfl ?_
  refine m_callV (pc' := 175) (A := [.int (lo3 (y >>> (4 &&& 31)) 8), .int 2, .int (lo3 (y * 9) 4096), .int (lo3 (y * 5) 4096), .int ((1 : Int32) + (lo3 (y >>> (4 &&& 31)) 30))]) (rest := []) (b := 0) cl_L_act_39 dL_act_172 rfl rfl (Nat.le_of_ble_eq_true rfl) ⟨by decide, by decide⟩ (by decide) rfl rfl rfl rfl ?_
  refine k_setSource hC hO (fun e1 fe1 ce1 => ?_)
  show mM G mL_act 175 [some (.ref 0), some (.int y), some (.int (y >>> (4 &&& 31)))] [.int ((opSetSource A (lo3 (y >>> (4 &&& 31)) 8) 2 (lo3 (y * 9) 4096) (lo3 (y * 5) 4096) ((1 : Int32) + (lo3 (y >>> (4 &&& 31)) 30))).1)] S1 e1 (0, 0) Q
  refine m_iret dL_act_175 rfl rfl ⟨by decide, by decide⟩ ?_
  have e9 : actL A y = (opSetSource A (lo3 (y >>> (4 &&& 31)) 8) 2 (lo3 (y * 9) 4096) (lo3 (y * 5) 4096) ((1 : Int32) + (lo3 (y >>> (4 &&& 31)) 30))) := by unfold actL; rw [if_neg (by rw [hw]; decide), if_neg (by rw [hw]; decide), if_pos hw]
  rw [e9] at hQ
  exact hQ _ ce1
set_option maxHeartbeats 4000000 in
set_option maxRecDepth 100000 in
theorem la_3 {A : AS} {y : Int32} (hC : CR d A) (hO : OK A) (hw : y &&& 15 = 3) (hQ : ∀ d', CR d' (actL A y).2 → Q (some (.int (actL A y).1)) S1 d') : mM G mL_act 176 [some (.ref 0), some (.int y), some (.int (y >>> (4 &&& 31)))] [] S1 d (0, 0) Q := by
  refine m_aload_n (pc' := 177) dL_act_176 rfl rfl ?_
  refine m_iload_n (pc' := 178) dL_act_177 rfl rfl ?_
  refine m_bipush (pc' := 180) (v := 8) dL_act_178 (by decide) rfl ?_
  refine m_callS (pc' := 183) (A := [.int (y >>> (4 &&& 31)), .int 8]) (rest := [.ref 0]) cl_L_act_34 dL_act_180 rfl rfl (Nat.le_of_ble_eq_true rfl) ⟨by decide, by decide⟩ rfl rfl ?_
  refine lw_low (by decide) ?_
  show mM G mL_act 183 [some (.ref 0), some (.int y), some (.int (y >>> (4 &&& 31)))] [.int (lo3 (y >>> (4 &&& 31)) 8), .ref 0] S1 d (0, 0) Q
  refine m_iload_n (pc' := 184) dL_act_183 rfl rfl ?_
  refine m_iconst (pc' := 185) (v := 5) dL_act_184 (by decide) rfl ?_
  refine m_ishr (pc' := 186) dL_act_185 rfl ?_
  refine m_bipush (pc' := 188) (v := 32) dL_act_186 (by decide) rfl ?_
  refine m_callS (pc' := 191) (A := [.int (y >>> (5 &&& 31)), .int 32]) (rest := [.int (lo3 (y >>> (4 &&& 31)) 8), .ref 0]) cl_L_act_34 dL_act_188 rfl rfl (Nat.le_of_ble_eq_true rfl) ⟨by decide, by decide⟩ rfl rfl ?_
  refine lw_low (by decide) ?_
  show mM G mL_act 191 [some (.ref 0), some (.int y), some (.int (y >>> (4 &&& 31)))] [.int (lo3 (y >>> (5 &&& 31)) 32), .int (lo3 (y >>> (4 &&& 31)) 8), .ref 0] S1 d (0, 0) Q
  refine m_callV (pc' := 194) (A := [.int (lo3 (y >>> (4 &&& 31)) 8), .int (lo3 (y >>> (5 &&& 31)) 32)]) (rest := []) (b := 0) cl_L_act_43 dL_act_191 rfl rfl (Nat.le_of_ble_eq_true rfl) ⟨by decide, by decide⟩ (by decide) rfl rfl rfl rfl ?_
  refine k_setRes hC hO (fun e1 fe1 ce1 => ?_)
  show mM G mL_act 194 [some (.ref 0), some (.int y), some (.int (y >>> (4 &&& 31)))] [.int ((opSetRes A (lo3 (y >>> (4 &&& 31)) 8) (lo3 (y >>> (5 &&& 31)) 32)).1)] S1 e1 (0, 0) Q
  refine m_iret dL_act_194 rfl rfl ⟨by decide, by decide⟩ ?_
  have e9 : actL A y = (opSetRes A (lo3 (y >>> (4 &&& 31)) 8) (lo3 (y >>> (5 &&& 31)) 32)) := by unfold actL; rw [if_neg (by rw [hw]; decide), if_neg (by rw [hw]; decide), if_neg (by rw [hw]; decide), if_pos hw]
  rw [e9] at hQ
  exact hQ _ ce1
set_option maxHeartbeats 4000000 in
set_option maxRecDepth 100000 in
theorem la_4 {A : AS} {y : Int32} (hC : CR d A) (hO : OK A) (hw : y &&& 15 = 4) (hQ : ∀ d', CR d' (actL A y).2 → Q (some (.int (actL A y).1)) S1 d') : mM G mL_act 195 [some (.ref 0), some (.int y), some (.int (y >>> (4 &&& 31)))] [] S1 d (0, 0) Q := by
  refine m_aload_n (pc' := 196) dL_act_195 rfl rfl ?_
  refine m_iload_n (pc' := 197) dL_act_196 rfl rfl ?_
  refine m_iconst (pc' := 198) (v := 3) dL_act_197 (by decide) rfl ?_
  refine m_callS (pc' := 201) (A := [.int (y >>> (4 &&& 31)), .int 3]) (rest := [.ref 0]) cl_L_act_34 dL_act_198 rfl rfl (Nat.le_of_ble_eq_true rfl) ⟨by decide, by decide⟩ rfl rfl ?_
  refine lw_low (by decide) ?_
  show mM G mL_act 201 [some (.ref 0), some (.int y), some (.int (y >>> (4 &&& 31)))] [.int (lo3 (y >>> (4 &&& 31)) 3), .ref 0] S1 d (0, 0) Q
  refine m_iload_n (pc' := 202) dL_act_201 rfl rfl ?_
  refine m_iconst (pc' := 203) (v := 3) dL_act_202 (by decide) rfl ?_
  refine m_ishr (pc' := 204) dL_act_203 rfl ?_
  refine m_sipush (pc' := 207) (v := 1100) dL_act_204 (by decide) rfl ?_
  refine m_callS (pc' := 210) (A := [.int (y >>> (3 &&& 31)), .int 1100]) (rest := [.int (lo3 (y >>> (4 &&& 31)) 3), .ref 0]) cl_L_act_34 dL_act_207 rfl rfl (Nat.le_of_ble_eq_true rfl) ⟨by decide, by decide⟩ rfl rfl ?_
  refine lw_low (by decide) ?_
  show mM G mL_act 210 [some (.ref 0), some (.int y), some (.int (y >>> (4 &&& 31)))] [.int (lo3 (y >>> (3 &&& 31)) 1100), .int (lo3 (y >>> (4 &&& 31)) 3), .ref 0] S1 d (0, 0) Q
  refine m_callV (pc' := 213) (A := [.int (lo3 (y >>> (4 &&& 31)) 3), .int (lo3 (y >>> (3 &&& 31)) 1100)]) (rest := []) (b := 0) cl_L_act_46 dL_act_210 rfl rfl (Nat.le_of_ble_eq_true rfl) ⟨by decide, by decide⟩ (by decide) rfl rfl rfl rfl ?_
  refine k_set hC hO (fun e1 fe1 ce1 => ?_)
  show mM G mL_act 213 [some (.ref 0), some (.int y), some (.int (y >>> (4 &&& 31)))] [.int ((opSet A (lo3 (y >>> (4 &&& 31)) 3) (lo3 (y >>> (3 &&& 31)) 1100)).1)] S1 e1 (0, 0) Q
  refine m_iret dL_act_213 rfl rfl ⟨by decide, by decide⟩ ?_
  have e9 : actL A y = (opSet A (lo3 (y >>> (4 &&& 31)) 3) (lo3 (y >>> (3 &&& 31)) 1100)) := by unfold actL; rw [if_neg (by rw [hw]; decide), if_neg (by rw [hw]; decide), if_neg (by rw [hw]; decide), if_neg (by rw [hw]; decide), if_pos hw]
  rw [e9] at hQ
  exact hQ _ ce1
set_option maxHeartbeats 4000000 in
set_option maxRecDepth 100000 in
theorem la_5 {A : AS} {y : Int32} (hC : CR d A) (hO : OK A) (hw : y &&& 15 = 5) (hQ : ∀ d', CR d' (actL A y).2 → Q (some (.int (actL A y).1)) S1 d') : mM G mL_act 214 [some (.ref 0), some (.int y), some (.int (y >>> (4 &&& 31)))] [] S1 d (0, 0) Q := by
  refine m_aload_n (pc' := 215) dL_act_214 rfl rfl ?_
  refine m_iload_n (pc' := 216) dL_act_215 rfl rfl ?_
  refine m_bipush (pc' := 218) (v := 10) dL_act_216 (by decide) rfl ?_
  refine m_callS (pc' := 221) (A := [.int (y >>> (4 &&& 31)), .int 10]) (rest := [.ref 0]) cl_L_act_34 dL_act_218 rfl rfl (Nat.le_of_ble_eq_true rfl) ⟨by decide, by decide⟩ rfl rfl ?_
  refine lw_low (by decide) ?_
  show mM G mL_act 221 [some (.ref 0), some (.int y), some (.int (y >>> (4 &&& 31)))] [.int (lo3 (y >>> (4 &&& 31)) 10), .ref 0] S1 d (0, 0) Q
  refine m_iload_n (pc' := 222) dL_act_221 rfl rfl ?_
  refine m_iconst (pc' := 223) (v := 5) dL_act_222 (by decide) rfl ?_
  refine m_ishr (pc' := 224) dL_act_223 rfl ?_
  refine m_bipush (pc' := 226) (v := 8) dL_act_224 (by decide) rfl ?_
  refine m_callS (pc' := 229) (A := [.int (y >>> (5 &&& 31)), .int 8]) (rest := [.int (lo3 (y >>> (4 &&& 31)) 10), .ref 0]) cl_L_act_34 dL_act_226 rfl rfl (Nat.le_of_ble_eq_true rfl) ⟨by decide, by decide⟩ rfl rfl ?_
  refine lw_low (by decide) ?_
  show mM G mL_act 229 [some (.ref 0), some (.int y), some (.int (y >>> (4 &&& 31)))] [.int (lo3 (y >>> (5 &&& 31)) 8), .int (lo3 (y >>> (4 &&& 31)) 10), .ref 0] S1 d (0, 0) Q
  refine m_iload_n (pc' := 230) dL_act_229 rfl rfl ?_
  refine m_bipush (pc' := 232) (v := 7) dL_act_230 (by decide) rfl ?_
  refine m_ishr (pc' := 233) dL_act_232 rfl ?_
  refine m_iconst (pc' := 234) (v := 5) dL_act_233 (by decide) rfl ?_
  refine m_callS (pc' := 237) (A := [.int (y >>> (7 &&& 31)), .int 5]) (rest := [.int (lo3 (y >>> (5 &&& 31)) 8), .int (lo3 (y >>> (4 &&& 31)) 10), .ref 0]) cl_L_act_34 dL_act_234 rfl rfl (Nat.le_of_ble_eq_true rfl) ⟨by decide, by decide⟩ rfl rfl ?_
  refine lw_low (by decide) ?_
  show mM G mL_act 237 [some (.ref 0), some (.int y), some (.int (y >>> (4 &&& 31)))] [.int (lo3 (y >>> (7 &&& 31)) 5), .int (lo3 (y >>> (5 &&& 31)) 8), .int (lo3 (y >>> (4 &&& 31)) 10), .ref 0] S1 d (0, 0) Q
  refine m_callV (pc' := 240) (A := [.int (lo3 (y >>> (4 &&& 31)) 10), .int (lo3 (y >>> (5 &&& 31)) 8), .int (lo3 (y >>> (7 &&& 31)) 5)]) (rest := []) (b := 0) cl_L_act_49 dL_act_237 rfl rfl (Nat.le_of_ble_eq_true rfl) ⟨by decide, by decide⟩ (by decide) rfl rfl rfl rfl ?_
  refine k_addEntry hC hO (fun e1 fe1 ce1 => ?_)
  show mM G mL_act 240 [some (.ref 0), some (.int y), some (.int (y >>> (4 &&& 31)))] [.int ((opAdd A (lo3 (y >>> (4 &&& 31)) 10) (lo3 (y >>> (5 &&& 31)) 8) (lo3 (y >>> (7 &&& 31)) 5)).1)] S1 e1 (0, 0) Q
  refine m_iret dL_act_240 rfl rfl ⟨by decide, by decide⟩ ?_
  have e9 : actL A y = (opAdd A (lo3 (y >>> (4 &&& 31)) 10) (lo3 (y >>> (5 &&& 31)) 8) (lo3 (y >>> (7 &&& 31)) 5)) := by unfold actL; rw [if_neg (by rw [hw]; decide), if_neg (by rw [hw]; decide), if_neg (by rw [hw]; decide), if_neg (by rw [hw]; decide), if_neg (by rw [hw]; decide), if_pos (Or.inl hw)]
  rw [e9] at hQ
  exact hQ _ ce1
set_option maxHeartbeats 4000000 in
set_option maxRecDepth 100000 in
theorem la_6 {A : AS} {y : Int32} (hC : CR d A) (hO : OK A) (hw : y &&& 15 = 6) (hQ : ∀ d', CR d' (actL A y).2 → Q (some (.int (actL A y).1)) S1 d') : mM G mL_act 214 [some (.ref 0), some (.int y), some (.int (y >>> (4 &&& 31)))] [] S1 d (0, 0) Q := by
  refine m_aload_n (pc' := 215) dL_act_214 rfl rfl ?_
  refine m_iload_n (pc' := 216) dL_act_215 rfl rfl ?_
  refine m_bipush (pc' := 218) (v := 10) dL_act_216 (by decide) rfl ?_
  refine m_callS (pc' := 221) (A := [.int (y >>> (4 &&& 31)), .int 10]) (rest := [.ref 0]) cl_L_act_34 dL_act_218 rfl rfl (Nat.le_of_ble_eq_true rfl) ⟨by decide, by decide⟩ rfl rfl ?_
  refine lw_low (by decide) ?_
  show mM G mL_act 221 [some (.ref 0), some (.int y), some (.int (y >>> (4 &&& 31)))] [.int (lo3 (y >>> (4 &&& 31)) 10), .ref 0] S1 d (0, 0) Q
  refine m_iload_n (pc' := 222) dL_act_221 rfl rfl ?_
  refine m_iconst (pc' := 223) (v := 5) dL_act_222 (by decide) rfl ?_
  refine m_ishr (pc' := 224) dL_act_223 rfl ?_
  refine m_bipush (pc' := 226) (v := 8) dL_act_224 (by decide) rfl ?_
  refine m_callS (pc' := 229) (A := [.int (y >>> (5 &&& 31)), .int 8]) (rest := [.int (lo3 (y >>> (4 &&& 31)) 10), .ref 0]) cl_L_act_34 dL_act_226 rfl rfl (Nat.le_of_ble_eq_true rfl) ⟨by decide, by decide⟩ rfl rfl ?_
  refine lw_low (by decide) ?_
  show mM G mL_act 229 [some (.ref 0), some (.int y), some (.int (y >>> (4 &&& 31)))] [.int (lo3 (y >>> (5 &&& 31)) 8), .int (lo3 (y >>> (4 &&& 31)) 10), .ref 0] S1 d (0, 0) Q
  refine m_iload_n (pc' := 230) dL_act_229 rfl rfl ?_
  refine m_bipush (pc' := 232) (v := 7) dL_act_230 (by decide) rfl ?_
  refine m_ishr (pc' := 233) dL_act_232 rfl ?_
  refine m_iconst (pc' := 234) (v := 5) dL_act_233 (by decide) rfl ?_
  refine m_callS (pc' := 237) (A := [.int (y >>> (7 &&& 31)), .int 5]) (rest := [.int (lo3 (y >>> (5 &&& 31)) 8), .int (lo3 (y >>> (4 &&& 31)) 10), .ref 0]) cl_L_act_34 dL_act_234 rfl rfl (Nat.le_of_ble_eq_true rfl) ⟨by decide, by decide⟩ rfl rfl ?_
  refine lw_low (by decide) ?_
  show mM G mL_act 237 [some (.ref 0), some (.int y), some (.int (y >>> (4 &&& 31)))] [.int (lo3 (y >>> (7 &&& 31)) 5), .int (lo3 (y >>> (5 &&& 31)) 8), .int (lo3 (y >>> (4 &&& 31)) 10), .ref 0] S1 d (0, 0) Q
  refine m_callV (pc' := 240) (A := [.int (lo3 (y >>> (4 &&& 31)) 10), .int (lo3 (y >>> (5 &&& 31)) 8), .int (lo3 (y >>> (7 &&& 31)) 5)]) (rest := []) (b := 0) cl_L_act_49 dL_act_237 rfl rfl (Nat.le_of_ble_eq_true rfl) ⟨by decide, by decide⟩ (by decide) rfl rfl rfl rfl ?_
  refine k_addEntry hC hO (fun e1 fe1 ce1 => ?_)
  show mM G mL_act 240 [some (.ref 0), some (.int y), some (.int (y >>> (4 &&& 31)))] [.int ((opAdd A (lo3 (y >>> (4 &&& 31)) 10) (lo3 (y >>> (5 &&& 31)) 8) (lo3 (y >>> (7 &&& 31)) 5)).1)] S1 e1 (0, 0) Q
  refine m_iret dL_act_240 rfl rfl ⟨by decide, by decide⟩ ?_
  have e9 : actL A y = (opAdd A (lo3 (y >>> (4 &&& 31)) 10) (lo3 (y >>> (5 &&& 31)) 8) (lo3 (y >>> (7 &&& 31)) 5)) := by unfold actL; rw [if_neg (by rw [hw]; decide), if_neg (by rw [hw]; decide), if_neg (by rw [hw]; decide), if_neg (by rw [hw]; decide), if_neg (by rw [hw]; decide), if_pos (Or.inr (Or.inl hw))]
  rw [e9] at hQ
  exact hQ _ ce1
set_option maxHeartbeats 4000000 in
set_option maxRecDepth 100000 in
theorem la_7 {A : AS} {y : Int32} (hC : CR d A) (hO : OK A) (hw : y &&& 15 = 7) (hQ : ∀ d', CR d' (actL A y).2 → Q (some (.int (actL A y).1)) S1 d') : mM G mL_act 214 [some (.ref 0), some (.int y), some (.int (y >>> (4 &&& 31)))] [] S1 d (0, 0) Q := by
  refine m_aload_n (pc' := 215) dL_act_214 rfl rfl ?_
  refine m_iload_n (pc' := 216) dL_act_215 rfl rfl ?_
  refine m_bipush (pc' := 218) (v := 10) dL_act_216 (by decide) rfl ?_
  refine m_callS (pc' := 221) (A := [.int (y >>> (4 &&& 31)), .int 10]) (rest := [.ref 0]) cl_L_act_34 dL_act_218 rfl rfl (Nat.le_of_ble_eq_true rfl) ⟨by decide, by decide⟩ rfl rfl ?_
  refine lw_low (by decide) ?_
  show mM G mL_act 221 [some (.ref 0), some (.int y), some (.int (y >>> (4 &&& 31)))] [.int (lo3 (y >>> (4 &&& 31)) 10), .ref 0] S1 d (0, 0) Q
  refine m_iload_n (pc' := 222) dL_act_221 rfl rfl ?_
  refine m_iconst (pc' := 223) (v := 5) dL_act_222 (by decide) rfl ?_
  refine m_ishr (pc' := 224) dL_act_223 rfl ?_
  refine m_bipush (pc' := 226) (v := 8) dL_act_224 (by decide) rfl ?_
  refine m_callS (pc' := 229) (A := [.int (y >>> (5 &&& 31)), .int 8]) (rest := [.int (lo3 (y >>> (4 &&& 31)) 10), .ref 0]) cl_L_act_34 dL_act_226 rfl rfl (Nat.le_of_ble_eq_true rfl) ⟨by decide, by decide⟩ rfl rfl ?_
  refine lw_low (by decide) ?_
  show mM G mL_act 229 [some (.ref 0), some (.int y), some (.int (y >>> (4 &&& 31)))] [.int (lo3 (y >>> (5 &&& 31)) 8), .int (lo3 (y >>> (4 &&& 31)) 10), .ref 0] S1 d (0, 0) Q
  refine m_iload_n (pc' := 230) dL_act_229 rfl rfl ?_
  refine m_bipush (pc' := 232) (v := 7) dL_act_230 (by decide) rfl ?_
  refine m_ishr (pc' := 233) dL_act_232 rfl ?_
  refine m_iconst (pc' := 234) (v := 5) dL_act_233 (by decide) rfl ?_
  refine m_callS (pc' := 237) (A := [.int (y >>> (7 &&& 31)), .int 5]) (rest := [.int (lo3 (y >>> (5 &&& 31)) 8), .int (lo3 (y >>> (4 &&& 31)) 10), .ref 0]) cl_L_act_34 dL_act_234 rfl rfl (Nat.le_of_ble_eq_true rfl) ⟨by decide, by decide⟩ rfl rfl ?_
  refine lw_low (by decide) ?_
  show mM G mL_act 237 [some (.ref 0), some (.int y), some (.int (y >>> (4 &&& 31)))] [.int (lo3 (y >>> (7 &&& 31)) 5), .int (lo3 (y >>> (5 &&& 31)) 8), .int (lo3 (y >>> (4 &&& 31)) 10), .ref 0] S1 d (0, 0) Q
  refine m_callV (pc' := 240) (A := [.int (lo3 (y >>> (4 &&& 31)) 10), .int (lo3 (y >>> (5 &&& 31)) 8), .int (lo3 (y >>> (7 &&& 31)) 5)]) (rest := []) (b := 0) cl_L_act_49 dL_act_237 rfl rfl (Nat.le_of_ble_eq_true rfl) ⟨by decide, by decide⟩ (by decide) rfl rfl rfl rfl ?_
  refine k_addEntry hC hO (fun e1 fe1 ce1 => ?_)
  show mM G mL_act 240 [some (.ref 0), some (.int y), some (.int (y >>> (4 &&& 31)))] [.int ((opAdd A (lo3 (y >>> (4 &&& 31)) 10) (lo3 (y >>> (5 &&& 31)) 8) (lo3 (y >>> (7 &&& 31)) 5)).1)] S1 e1 (0, 0) Q
  refine m_iret dL_act_240 rfl rfl ⟨by decide, by decide⟩ ?_
  have e9 : actL A y = (opAdd A (lo3 (y >>> (4 &&& 31)) 10) (lo3 (y >>> (5 &&& 31)) 8) (lo3 (y >>> (7 &&& 31)) 5)) := by unfold actL; rw [if_neg (by rw [hw]; decide), if_neg (by rw [hw]; decide), if_neg (by rw [hw]; decide), if_neg (by rw [hw]; decide), if_neg (by rw [hw]; decide), if_pos (Or.inr (Or.inr hw))]
  rw [e9] at hQ
  exact hQ _ ce1
set_option maxHeartbeats 4000000 in
set_option maxRecDepth 100000 in
theorem la_8 {A : AS} {y : Int32} (hC : CR d A) (hO : OK A) (hw : y &&& 15 = 8) (hQ : ∀ d', CR d' (actL A y).2 → Q (some (.int (actL A y).1)) S1 d') : mM G mL_act 241 [some (.ref 0), some (.int y), some (.int (y >>> (4 &&& 31)))] [] S1 d (0, 0) Q := by
  refine m_aload_n (pc' := 242) dL_act_241 rfl rfl ?_
  refine m_iload_n (pc' := 243) dL_act_242 rfl rfl ?_
  refine m_bipush (pc' := 245) (v := 6) dL_act_243 (by decide) rfl ?_
  refine m_callS (pc' := 248) (A := [.int (y >>> (4 &&& 31)), .int 6]) (rest := [.ref 0]) cl_L_act_34 dL_act_245 rfl rfl (Nat.le_of_ble_eq_true rfl) ⟨by decide, by decide⟩ rfl rfl ?_
  refine lw_low (by decide) ?_
  show mM G mL_act 248 [some (.ref 0), some (.int y), some (.int (y >>> (4 &&& 31)))] [.int (lo3 (y >>> (4 &&& 31)) 6), .ref 0] S1 d (0, 0) Q
  refine m_callV (pc' := 251) (A := [.int (lo3 (y >>> (4 &&& 31)) 6)]) (rest := []) (b := 0) cl_L_act_53 dL_act_248 rfl rfl (Nat.le_of_ble_eq_true rfl) ⟨by decide, by decide⟩ (by decide) rfl rfl rfl rfl ?_
  refine k_removeEntry hC hO (fun e1 fe1 ce1 => ?_)
  show mM G mL_act 251 [some (.ref 0), some (.int y), some (.int (y >>> (4 &&& 31)))] [.int ((opRem A (lo3 (y >>> (4 &&& 31)) 6)).1)] S1 e1 (0, 0) Q
  refine m_iret dL_act_251 rfl rfl ⟨by decide, by decide⟩ ?_
  have e9 : actL A y = (opRem A (lo3 (y >>> (4 &&& 31)) 6)) := by unfold actL; rw [if_neg (by rw [hw]; decide), if_neg (by rw [hw]; decide), if_neg (by rw [hw]; decide), if_neg (by rw [hw]; decide), if_neg (by rw [hw]; decide), if_neg (by rw [hw]; decide), if_pos hw]
  rw [e9] at hQ
  exact hQ _ ce1
set_option maxHeartbeats 4000000 in
set_option maxRecDepth 100000 in
theorem la_9 {A : AS} {y : Int32} (hC : CR d A) (hO : OK A) (hw : y &&& 15 = 9) (hQ : ∀ d', CR d' (actL A y).2 → Q (some (.int (actL A y).1)) S1 d') : mM G mL_act 252 [some (.ref 0), some (.int y), some (.int (y >>> (4 &&& 31)))] [] S1 d (0, 0) Q := by
  refine m_aload_n (pc' := 253) dL_act_252 rfl rfl ?_
  refine m_iload_n (pc' := 254) dL_act_253 rfl rfl ?_
  refine m_bipush (pc' := 256) (v := 6) dL_act_254 (by decide) rfl ?_
  refine m_callS (pc' := 259) (A := [.int (y >>> (4 &&& 31)), .int 6]) (rest := [.ref 0]) cl_L_act_34 dL_act_256 rfl rfl (Nat.le_of_ble_eq_true rfl) ⟨by decide, by decide⟩ rfl rfl ?_
  refine lw_low (by decide) ?_
  show mM G mL_act 259 [some (.ref 0), some (.int y), some (.int (y >>> (4 &&& 31)))] [.int (lo3 (y >>> (4 &&& 31)) 6), .ref 0] S1 d (0, 0) Q
  refine m_iload_n (pc' := 260) dL_act_259 rfl rfl ?_
  refine m_bipush (pc' := 262) (v := 6) dL_act_260 (by decide) rfl ?_
  refine m_ishr (pc' := 263) dL_act_262 rfl ?_
  refine m_bipush (pc' := 265) (v := 9) dL_act_263 (by decide) rfl ?_
  refine m_callS (pc' := 268) (A := [.int (y >>> (6 &&& 31)), .int 9]) (rest := [.int (lo3 (y >>> (4 &&& 31)) 6), .ref 0]) cl_L_act_34 dL_act_265 rfl rfl (Nat.le_of_ble_eq_true rfl) ⟨by decide, by decide⟩ rfl rfl ?_
  refine lw_low (by decide) ?_
  show mM G mL_act 268 [some (.ref 0), some (.int y), some (.int (y >>> (4 &&& 31)))] [.int (lo3 (y >>> (6 &&& 31)) 9), .int (lo3 (y >>> (4 &&& 31)) 6), .ref 0] S1 d (0, 0) Q
  refine m_callV (pc' := 271) (A := [.int (lo3 (y >>> (4 &&& 31)) 6), .int (lo3 (y >>> (6 &&& 31)) 9)]) (rest := []) (b := 0) cl_L_act_56 dL_act_268 rfl rfl (Nat.le_of_ble_eq_true rfl) ⟨by decide, by decide⟩ (by decide) rfl rfl rfl rfl ?_
  refine k_setSettle hC hO (fun e1 fe1 ce1 => ?_)
  show mM G mL_act 271 [some (.ref 0), some (.int y), some (.int (y >>> (4 &&& 31)))] [.int ((opSettle A (lo3 (y >>> (4 &&& 31)) 6) (lo3 (y >>> (6 &&& 31)) 9)).1)] S1 e1 (0, 0) Q
  refine m_iret dL_act_271 rfl rfl ⟨by decide, by decide⟩ ?_
  have e9 : actL A y = (opSettle A (lo3 (y >>> (4 &&& 31)) 6) (lo3 (y >>> (6 &&& 31)) 9)) := by unfold actL; rw [if_neg (by rw [hw]; decide), if_neg (by rw [hw]; decide), if_neg (by rw [hw]; decide), if_neg (by rw [hw]; decide), if_neg (by rw [hw]; decide), if_neg (by rw [hw]; decide), if_neg (by rw [hw]; decide), if_pos hw]
  rw [e9] at hQ
  exact hQ _ ce1
set_option maxHeartbeats 4000000 in
set_option maxRecDepth 100000 in
theorem la_10 {A : AS} {y : Int32} (hC : CR d A) (hO : OK A) (hw : y &&& 15 = 10) (hQ : ∀ d', CR d' (actL A y).2 → Q (some (.int (actL A y).1)) S1 d') : mM G mL_act 272 [some (.ref 0), some (.int y), some (.int (y >>> (4 &&& 31)))] [] S1 d (0, 0) Q := by
  refine m_aload_n (pc' := 273) dL_act_272 rfl rfl ?_
  refine m_iload_n (pc' := 274) dL_act_273 rfl rfl ?_
  refine m_iconst (pc' := 275) (v := 4) dL_act_274 (by decide) rfl ?_
  refine m_callS (pc' := 278) (A := [.int (y >>> (4 &&& 31)), .int 4]) (rest := [.ref 0]) cl_L_act_34 dL_act_275 rfl rfl (Nat.le_of_ble_eq_true rfl) ⟨by decide, by decide⟩ rfl rfl ?_
  refine lw_low (by decide) ?_
  show mM G mL_act 278 [some (.ref 0), some (.int y), some (.int (y >>> (4 &&& 31)))] [.int (lo3 (y >>> (4 &&& 31)) 4), .ref 0] S1 d (0, 0) Q
  refine m_callV (pc' := 281) (A := [.int (lo3 (y >>> (4 &&& 31)) 4)]) (rest := []) (b := 0) cl_L_act_59 dL_act_278 rfl rfl (Nat.le_of_ble_eq_true rfl) ⟨by decide, by decide⟩ (by decide) rfl rfl rfl rfl ?_
  refine k_order hC hO (fun e1 fe1 ce1 => ?_)
  show mM G mL_act 281 [some (.ref 0), some (.int y), some (.int (y >>> (4 &&& 31)))] [.int ((opOrder A (lo3 (y >>> (4 &&& 31)) 4)).1)] S1 e1 (0, 0) Q
  refine m_iret dL_act_281 rfl rfl ⟨by decide, by decide⟩ ?_
  have e9 : actL A y = (opOrder A (lo3 (y >>> (4 &&& 31)) 4)) := by unfold actL; rw [if_neg (by rw [hw]; decide), if_neg (by rw [hw]; decide), if_neg (by rw [hw]; decide), if_neg (by rw [hw]; decide), if_neg (by rw [hw]; decide), if_neg (by rw [hw]; decide), if_neg (by rw [hw]; decide), if_neg (by rw [hw]; decide), if_pos hw]
  rw [e9] at hQ
  exact hQ _ ce1
set_option maxHeartbeats 4000000 in
set_option maxRecDepth 100000 in
theorem la_11 {A : AS} {y : Int32} (hC : CR d A) (hO : OK A) (hw : y &&& 15 = 11) (hQ : ∀ d', CR d' (actL A y).2 → Q (some (.int (actL A y).1)) S1 d') : mM G mL_act 282 [some (.ref 0), some (.int y), some (.int (y >>> (4 &&& 31)))] [] S1 d (0, 0) Q := by
  refine m_aload_n (pc' := 283) dL_act_282 rfl rfl ?_
  refine m_iconst (pc' := 284) (v := 1) dL_act_283 (by decide) rfl ?_
  refine m_iload_n (pc' := 285) dL_act_284 rfl rfl ?_
  refine m_bipush (pc' := 287) (v := 50) dL_act_285 (by decide) rfl ?_
  refine m_callS (pc' := 290) (A := [.int (y >>> (4 &&& 31)), .int 50]) (rest := [.int 1, .ref 0]) cl_L_act_34 dL_act_287 rfl rfl (Nat.le_of_ble_eq_true rfl) ⟨by decide, by decide⟩ rfl rfl ?_
  refine lw_low (by decide) ?_
  show mM G mL_act 290 [some (.ref 0), some (.int y), some (.int (y >>> (4 &&& 31)))] [.int (lo3 (y >>> (4 &&& 31)) 50), .int 1, .ref 0] S1 d (0, 0) Q
  refine m_iadd (pc' := 291) dL_act_290 rfl ?_
  refine m_callV (pc' := 294) (A := [.int ((1 : Int32) + (lo3 (y >>> (4 &&& 31)) 50))]) (rest := []) (b := 0) cl_L_act_62 dL_act_291 rfl rfl (Nat.le_of_ble_eq_true rfl) ⟨by decide, by decide⟩ (by decide) rfl rfl rfl rfl ?_
  refine k_pass hC hO (fun e1 fe1 ce1 => ?_)
  show mM G mL_act 294 [some (.ref 0), some (.int y), some (.int (y >>> (4 &&& 31)))] [.int ((opPass A ((1 : Int32) + (lo3 (y >>> (4 &&& 31)) 50))).1)] S1 e1 (0, 0) Q
  refine m_iret dL_act_294 rfl rfl ⟨by decide, by decide⟩ ?_
  have e9 : actL A y = (opPass A ((1 : Int32) + (lo3 (y >>> (4 &&& 31)) 50))) := by unfold actL; rw [if_neg (by rw [hw]; decide), if_neg (by rw [hw]; decide), if_neg (by rw [hw]; decide), if_neg (by rw [hw]; decide), if_neg (by rw [hw]; decide), if_neg (by rw [hw]; decide), if_neg (by rw [hw]; decide), if_neg (by rw [hw]; decide), if_neg (by rw [hw]; decide), if_pos hw]
  rw [e9] at hQ
  exact hQ _ ce1
set_option maxHeartbeats 4000000 in
set_option maxRecDepth 100000 in
theorem la_12 {A : AS} {y : Int32} (hC : CR d A) (hO : OK A) (hw : y &&& 15 = 12) (hQ : ∀ d', CR d' (actL A y).2 → Q (some (.int (actL A y).1)) S1 d') : mM G mL_act 295 [some (.ref 0), some (.int y), some (.int (y >>> (4 &&& 31)))] [] S1 d (0, 0) Q := by
  refine m_iload_n (pc' := 296) dL_act_295 rfl rfl ?_
  refine m_sipush (pc' := 299) (v := 512) dL_act_296 (by decide) rfl ?_
  refine m_iand (pc' := 300) dL_act_299 rfl ?_
  refine m_if_eq (tgt := 315) (pc' := 303) dL_act_300 (by decide) rfl (fun h300 => ?_) (fun h300 => ?_)
  · skip
    refine m_aload_n (pc' := 316) dL_act_315 rfl rfl ?_
    refine m_iload_n (pc' := 317) dL_act_316 rfl rfl ?_
    refine m_iconst (pc' := 318) (v := 2) dL_act_317 (by decide) rfl ?_
    refine m_callS (pc' := 321) (A := [.int (y >>> (4 &&& 31)), .int 2]) (rest := [.ref 0]) cl_L_act_34 dL_act_318 rfl rfl (Nat.le_of_ble_eq_true rfl) ⟨by decide, by decide⟩ rfl rfl ?_
    refine lw_low (by decide) ?_
    show mM G mL_act 321 [some (.ref 0), some (.int y), some (.int (y >>> (4 &&& 31)))] [.int (lo3 (y >>> (4 &&& 31)) 2), .ref 0] S1 d (0, 0) Q
    refine m_callV (pc' := 324) (A := [.int (lo3 (y >>> (4 &&& 31)) 2)]) (rest := []) (b := 0) cl_L_act_68 dL_act_321 rfl rfl (Nat.le_of_ble_eq_true rfl) ⟨by decide, by decide⟩ (by decide) rfl rfl rfl rfl ?_
    refine k_restore hC hO (fun e1 fe1 ce1 => ?_)
    show mM G mL_act 324 [some (.ref 0), some (.int y), some (.int (y >>> (4 &&& 31)))] [.int ((opRestore A (lo3 (y >>> (4 &&& 31)) 2)).1)] S1 e1 (0, 0) Q
    refine m_iret dL_act_324 rfl rfl ⟨by decide, by decide⟩ ?_
    have e9 : actL A y = (opRestore A (lo3 (y >>> (4 &&& 31)) 2)) := by unfold actL; rw [if_neg (by rw [hw]; decide), if_neg (by rw [hw]; decide), if_neg (by rw [hw]; decide), if_neg (by rw [hw]; decide), if_neg (by rw [hw]; decide), if_neg (by rw [hw]; decide), if_neg (by rw [hw]; decide), if_neg (by rw [hw]; decide), if_neg (by rw [hw]; decide), if_neg (by rw [hw]; decide), if_pos hw, if_pos h300]
    rw [e9] at hQ
    exact hQ _ ce1
  · skip
    refine m_aload_n (pc' := 304) dL_act_303 rfl rfl ?_
    refine m_iload_n (pc' := 305) dL_act_304 rfl rfl ?_
    refine m_iconst (pc' := 306) (v := 2) dL_act_305 (by decide) rfl ?_
    refine m_callS (pc' := 309) (A := [.int (y >>> (4 &&& 31)), .int 2]) (rest := [.ref 0]) cl_L_act_34 dL_act_306 rfl rfl (Nat.le_of_ble_eq_true rfl) ⟨by decide, by decide⟩ rfl rfl ?_
    refine lw_low (by decide) ?_
    show mM G mL_act 309 [some (.ref 0), some (.int y), some (.int (y >>> (4 &&& 31)))] [.int (lo3 (y >>> (4 &&& 31)) 2), .ref 0] S1 d (0, 0) Q
    refine m_callV (pc' := 312) (A := [.int (lo3 (y >>> (4 &&& 31)) 2)]) (rest := []) (b := 0) cl_L_act_65 dL_act_309 rfl rfl (Nat.le_of_ble_eq_true rfl) ⟨by decide, by decide⟩ (by decide) rfl rfl rfl rfl ?_
    refine k_take hC hO (fun e2 fe2 ce2 => ?_)
    show mM G mL_act 312 [some (.ref 0), some (.int y), some (.int (y >>> (4 &&& 31)))] [.int ((opTake A (lo3 (y >>> (4 &&& 31)) 2)).1)] S1 e2 (0, 0) Q
    refine m_goto (tgt := 324) dL_act_312 (by decide) ?_
    refine m_iret dL_act_324 rfl rfl ⟨by decide, by decide⟩ ?_
    have e9 : actL A y = (opTake A (lo3 (y >>> (4 &&& 31)) 2)) := by unfold actL; rw [if_neg (by rw [hw]; decide), if_neg (by rw [hw]; decide), if_neg (by rw [hw]; decide), if_neg (by rw [hw]; decide), if_neg (by rw [hw]; decide), if_neg (by rw [hw]; decide), if_neg (by rw [hw]; decide), if_neg (by rw [hw]; decide), if_neg (by rw [hw]; decide), if_neg (by rw [hw]; decide), if_pos hw, if_neg h300]
    rw [e9] at hQ
    exact hQ _ ce2
set_option maxHeartbeats 4000000 in
set_option maxRecDepth 100000 in
theorem la_13 {A : AS} {y : Int32} (hC : CR d A) (hO : OK A) (w0 : ¬ y &&& 15 = 0) (w1 : ¬ y &&& 15 = 1) (w2 : ¬ y &&& 15 = 2) (w3 : ¬ y &&& 15 = 3) (w4 : ¬ y &&& 15 = 4) (w5 : ¬ y &&& 15 = 5) (w6 : ¬ y &&& 15 = 6) (w7 : ¬ y &&& 15 = 7) (w8 : ¬ y &&& 15 = 8) (w9 : ¬ y &&& 15 = 9) (w10 : ¬ y &&& 15 = 10) (w11 : ¬ y &&& 15 = 11) (w12 : ¬ y &&& 15 = 12) (hQ : ∀ d', CR d' (actL A y).2 → Q (some (.int (actL A y).1)) S1 d') : mM G mL_act 325 [some (.ref 0), some (.int y), some (.int (y >>> (4 &&& 31)))] [] S1 d (0, 0) Q := by
  refine m_aload_n (pc' := 326) dL_act_325 rfl rfl ?_
  refine m_iconst (pc' := 327) (v := 1) dL_act_326 (by decide) rfl ?_
  refine m_iload_n (pc' := 328) dL_act_327 rfl rfl ?_
  refine m_iconst (pc' := 329) (v := 3) dL_act_328 (by decide) rfl ?_
  refine m_callS (pc' := 332) (A := [.int (y >>> (4 &&& 31)), .int 3]) (rest := [.int 1, .ref 0]) cl_L_act_34 dL_act_329 rfl rfl (Nat.le_of_ble_eq_true rfl) ⟨by decide, by decide⟩ rfl rfl ?_
  refine lw_low (by decide) ?_
  show mM G mL_act 332 [some (.ref 0), some (.int y), some (.int (y >>> (4 &&& 31)))] [.int (lo3 (y >>> (4 &&& 31)) 3), .int 1, .ref 0] S1 d (0, 0) Q
  refine m_iadd (pc' := 333) dL_act_332 rfl ?_
  refine m_callV (pc' := 336) (A := [.int ((1 : Int32) + (lo3 (y >>> (4 &&& 31)) 3))]) (rest := []) (b := 0) cl_L_act_71 dL_act_333 rfl rfl (Nat.le_of_ble_eq_true rfl) ⟨by decide, by decide⟩ (by decide) rfl rfl rfl rfl ?_
  refine k_scan hC hO (fun e1 fe1 ce1 => ?_)
  show mM G mL_act 336 [some (.ref 0), some (.int y), some (.int (y >>> (4 &&& 31)))] [.int ((opScan A ((1 : Int32) + (lo3 (y >>> (4 &&& 31)) 3))).1)] S1 e1 (0, 0) Q
  refine m_iret dL_act_336 rfl rfl ⟨by decide, by decide⟩ ?_
  have e9 : actL A y = (opScan A ((1 : Int32) + (lo3 (y >>> (4 &&& 31)) 3))) := by unfold actL; rw [if_neg w0, if_neg w1, if_neg w2, if_neg w3, if_neg w4, if_neg (fun z => z.elim w5 (fun z => z.elim w6 w7)), if_neg w8, if_neg w9, if_neg w10, if_neg w11, if_neg w12]
  rw [e9] at hQ
  exact hQ _ ce1
set_option maxHeartbeats 4000000 in
set_option maxRecDepth 100000 in
theorem lw_act {A : AS} {y : Int32} (hC : CR d A) (hO : OK A) (hQ : ∀ d', CR d' (actL A y).2 → Q (some (.int (actL A y).1)) S1 d') : mC G mL_act [.ref 0, .int y] S1 d Q := by
  refine mC_of (by decide +kernel) ⟨_, rfl⟩ (Nat.le_of_ble_eq_true rfl) ?_
  show mM G mL_act 0 [some (.ref 0), some (.int y), none] [] S1 d (0, 0) Q
  refine m_iload_n (pc' := 1) dL_act_0 rfl rfl ?_
  refine m_iconst (pc' := 2) (v := 4) dL_act_1 (by decide) rfl ?_
  refine m_ishr (pc' := 3) dL_act_2 rfl ?_
  refine m_istore_n (pc' := 4) dL_act_3 (by decide) rfl rfl ?_
  refine m_iload_n (pc' := 5) dL_act_4 rfl rfl ?_
  refine m_bipush (pc' := 7) (v := 15) dL_act_5 (by decide) rfl ?_
  refine m_iand (pc' := 8) dL_act_7 rfl ?_
  by_cases w0 : y &&& 15 = 0
  · skip
    rw [w0]
    refine m_tableIn (tgt := 76) (off := 68) dL_act_8 (by decide) (by decide) rfl (by decide) ?_
    exact la_0 hC hO w0 hQ
  by_cases w1 : y &&& 15 = 1
  · skip
    rw [w1]
    refine m_tableIn (tgt := 100) (off := 92) dL_act_8 (by decide) (by decide) rfl (by decide) ?_
    exact la_1 hC hO w1 hQ
  by_cases w2 : y &&& 15 = 2
  · skip
    rw [w2]
    refine m_tableIn (tgt := 135) (off := 127) dL_act_8 (by decide) (by decide) rfl (by decide) ?_
    exact la_2 hC hO w2 hQ
  by_cases w3 : y &&& 15 = 3
  · skip
    rw [w3]
    refine m_tableIn (tgt := 176) (off := 168) dL_act_8 (by decide) (by decide) rfl (by decide) ?_
    exact la_3 hC hO w3 hQ
  by_cases w4 : y &&& 15 = 4
  · skip
    rw [w4]
    refine m_tableIn (tgt := 195) (off := 187) dL_act_8 (by decide) (by decide) rfl (by decide) ?_
    exact la_4 hC hO w4 hQ
  by_cases w5 : y &&& 15 = 5
  · skip
    rw [w5]
    refine m_tableIn (tgt := 214) (off := 206) dL_act_8 (by decide) (by decide) rfl (by decide) ?_
    exact la_5 hC hO w5 hQ
  by_cases w6 : y &&& 15 = 6
  · skip
    rw [w6]
    refine m_tableIn (tgt := 214) (off := 206) dL_act_8 (by decide) (by decide) rfl (by decide) ?_
    exact la_6 hC hO w6 hQ
  by_cases w7 : y &&& 15 = 7
  · skip
    rw [w7]
    refine m_tableIn (tgt := 214) (off := 206) dL_act_8 (by decide) (by decide) rfl (by decide) ?_
    exact la_7 hC hO w7 hQ
  by_cases w8 : y &&& 15 = 8
  · skip
    rw [w8]
    refine m_tableIn (tgt := 241) (off := 233) dL_act_8 (by decide) (by decide) rfl (by decide) ?_
    exact la_8 hC hO w8 hQ
  by_cases w9 : y &&& 15 = 9
  · skip
    rw [w9]
    refine m_tableIn (tgt := 252) (off := 244) dL_act_8 (by decide) (by decide) rfl (by decide) ?_
    exact la_9 hC hO w9 hQ
  by_cases w10 : y &&& 15 = 10
  · skip
    rw [w10]
    refine m_tableIn (tgt := 272) (off := 264) dL_act_8 (by decide) (by decide) rfl (by decide) ?_
    exact la_10 hC hO w10 hQ
  by_cases w11 : y &&& 15 = 11
  · skip
    rw [w11]
    refine m_tableIn (tgt := 282) (off := 274) dL_act_8 (by decide) (by decide) rfl (by decide) ?_
    exact la_11 hC hO w11 hQ
  by_cases w12 : y &&& 15 = 12
  · skip
    rw [w12]
    refine m_tableIn (tgt := 295) (off := 287) dL_act_8 (by decide) (by decide) rfl (by decide) ?_
    exact la_12 hC hO w12 hQ
  refine m_tableOut (tgt := 325) dL_act_8 (by have z0 := tI_ne w0; have y0 : ((0 : Int32)).toInt = 0 := (by decide); have z1 := tI_ne w1; have y1 : ((1 : Int32)).toInt = 1 := (by decide); have z2 := tI_ne w2; have y2 : ((2 : Int32)).toInt = 2 := (by decide); have z3 := tI_ne w3; have y3 : ((3 : Int32)).toInt = 3 := (by decide); have z4 := tI_ne w4; have y4 : ((4 : Int32)).toInt = 4 := (by decide); have z5 := tI_ne w5; have y5 : ((5 : Int32)).toInt = 5 := (by decide); have z6 := tI_ne w6; have y6 : ((6 : Int32)).toInt = 6 := (by decide); have z7 := tI_ne w7; have y7 : ((7 : Int32)).toInt = 7 := (by decide); have z8 := tI_ne w8; have y8 : ((8 : Int32)).toInt = 8 := (by decide); have z9 := tI_ne w9; have y9 : ((9 : Int32)).toInt = 9 := (by decide); have z10 := tI_ne w10; have y10 : ((10 : Int32)).toInt = 10 := (by decide); have z11 := tI_ne w11; have y11 : ((11 : Int32)).toInt = 11 := (by decide); have z12 := tI_ne w12; have y12 : ((12 : Int32)).toInt = 12 := (by decide); omega) (by decide) ?_
  exact la_13 hC hO w0 w1 w2 w3 w4 w5 w6 w7 w8 w9 w10 w11 w12 hQ
end LAWA
