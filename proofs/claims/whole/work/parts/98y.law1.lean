/-! THE LAW'S WALK: each call -/
section LAWW
variable {G : GP} {nm : String} {d : Dt} {Q : Option Value → Sh → Dt → Prop} {L : Nat} {xs : Nat → Int32}
set_option maxHeartbeats 4000000 in
set_option maxRecDepth 100000 in
theorem lw_c0 {A : AS} {k : Nat} (hS : SCR G L xs) (hL31 : L < 2 ^ 31) (hk6 : 6 * k + 6 ≤ L) (hC : CR d A) (hM : MM d A) (hO : OK A) (hK : ∀ d', CR d' ((opSetSource A (xs (6 * k + 1)) (xs (6 * k + 2)) (xs (6 * k + 3)) (xs (6 * k + 4)) (xs (6 * k + 5))).2) → MM d' ((opSetSource A (xs (6 * k + 1)) (xs (6 * k + 2)) (xs (6 * k + 3)) (xs (6 * k + 4)) (xs (6 * k + 5))).2) → OK ((opSetSource A (xs (6 * k + 1)) (xs (6 * k + 2)) (xs (6 * k + 3)) (xs (6 * k + 4)) (xs (6 * k + 5))).2) → mM G (mLw nm) 877 [some (.long 0), some (.ref 0), some (.ref 214), some (.int (nI (6 * k)))] [] S1 d' (221, 29311) Q) : mM G (mLw nm) 156 [some (.long 0), some (.ref 0), some (.ref 214), some (.int (nI (6 * k)))] [] S1 d (221, 29311) Q := by
  refine m_aload_n (pc' := 157) dL_law_156 rfl rfl ?_
  refine m_xload_n (pc' := 158) dL_law_157 rfl rfl ?_
  refine m_iload_n (pc' := 159) dL_law_158 rfl rfl ?_
  refine m_iconst (pc' := 160) (v := 1) dL_law_159 (by decide) rfl ?_
  refine m_iadd (pc' := 161) dL_law_160 rfl ?_
  rw [show ((nI (6 * k)) + 1) = (nI (6 * k + 1)) from nI_add (6 * k) 1]
  refine m_siald (pc' := 162) (j := 6 * k + 1) hS dL_law_161 rfl (by omega) hL31 rfl ?_
  refine m_xload_n (pc' := 163) dL_law_162 rfl rfl ?_
  refine m_iload_n (pc' := 164) dL_law_163 rfl rfl ?_
  refine m_iconst (pc' := 165) (v := 2) dL_law_164 (by decide) rfl ?_
  refine m_iadd (pc' := 166) dL_law_165 rfl ?_
  rw [show ((nI (6 * k)) + 2) = (nI (6 * k + 2)) from nI_add (6 * k) 2]
  refine m_siald (pc' := 167) (j := 6 * k + 2) hS dL_law_166 rfl (by omega) hL31 rfl ?_
  refine m_xload_n (pc' := 168) dL_law_167 rfl rfl ?_
  refine m_iload_n (pc' := 169) dL_law_168 rfl rfl ?_
  refine m_iconst (pc' := 170) (v := 3) dL_law_169 (by decide) rfl ?_
  refine m_iadd (pc' := 171) dL_law_170 rfl ?_
  rw [show ((nI (6 * k)) + 3) = (nI (6 * k + 3)) from nI_add (6 * k) 3]
  refine m_siald (pc' := 172) (j := 6 * k + 3) hS dL_law_171 rfl (by omega) hL31 rfl ?_
  refine m_xload_n (pc' := 173) dL_law_172 rfl rfl ?_
  refine m_iload_n (pc' := 174) dL_law_173 rfl rfl ?_
  refine m_iconst (pc' := 175) (v := 4) dL_law_174 (by decide) rfl ?_
  refine m_iadd (pc' := 176) dL_law_175 rfl ?_
  rw [show ((nI (6 * k)) + 4) = (nI (6 * k + 4)) from nI_add (6 * k) 4]
  refine m_siald (pc' := 177) (j := 6 * k + 4) hS dL_law_176 rfl (by omega) hL31 rfl ?_
  refine m_xload_n (pc' := 178) dL_law_177 rfl rfl ?_
  refine m_iload_n (pc' := 179) dL_law_178 rfl rfl ?_
  refine m_iconst (pc' := 180) (v := 5) dL_law_179 (by decide) rfl ?_
  refine m_iadd (pc' := 181) dL_law_180 rfl ?_
  rw [show ((nI (6 * k)) + 5) = (nI (6 * k + 5)) from nI_add (6 * k) 5]
  refine m_siald (pc' := 182) (j := 6 * k + 5) hS dL_law_181 rfl (by omega) hL31 rfl ?_
  refine m_callV (pc' := 185) (A := [.int (xs (6 * k + 1)), .int (xs (6 * k + 2)), .int (xs (6 * k + 3)), .int (xs (6 * k + 4)), .int (xs (6 * k + 5))]) (rest := []) (b := 0) cl_L_law_13 dL_law_182 rfl rfl (Nat.le_of_ble_eq_true rfl) ⟨Nat.le_of_ble_eq_true rfl, Nat.le_of_ble_eq_true rfl⟩ (by decide) rfl rfl rfl rfl ?_
  refine k_setSource hC hO (fun e e0 eC => ?_)
  show mM G (mLw nm) 185 [some (.long 0), some (.ref 0), some (.ref 214), some (.int (nI (6 * k)))] [.int ((opSetSource A (xs (6 * k + 1)) (xs (6 * k + 2)) (xs (6 * k + 3)) (xs (6 * k + 4)) (xs (6 * k + 5))).1)] S1 e (221, 29311) Q
  have eM := MM_cf hM e0
  refine m_aload_n (pc' := 186) dL_law_185 rfl rfl ?_
  refine m_xload_n (pc' := 187) dL_law_186 rfl rfl ?_
  refine m_iload_n (pc' := 188) dL_law_187 rfl rfl ?_
  refine m_iconst (pc' := 189) (v := 1) dL_law_188 (by decide) rfl ?_
  refine m_iadd (pc' := 190) dL_law_189 rfl ?_
  rw [show ((nI (6 * k)) + 1) = (nI (6 * k + 1)) from nI_add (6 * k) 1]
  refine m_siald (pc' := 191) (j := 6 * k + 1) hS dL_law_190 rfl (by omega) hL31 rfl ?_
  refine m_xload_n (pc' := 192) dL_law_191 rfl rfl ?_
  refine m_iload_n (pc' := 193) dL_law_192 rfl rfl ?_
  refine m_iconst (pc' := 194) (v := 2) dL_law_193 (by decide) rfl ?_
  refine m_iadd (pc' := 195) dL_law_194 rfl ?_
  rw [show ((nI (6 * k)) + 2) = (nI (6 * k + 2)) from nI_add (6 * k) 2]
  refine m_siald (pc' := 196) (j := 6 * k + 2) hS dL_law_195 rfl (by omega) hL31 rfl ?_
  refine m_xload_n (pc' := 197) dL_law_196 rfl rfl ?_
  refine m_iload_n (pc' := 198) dL_law_197 rfl rfl ?_
  refine m_iconst (pc' := 199) (v := 3) dL_law_198 (by decide) rfl ?_
  refine m_iadd (pc' := 200) dL_law_199 rfl ?_
  rw [show ((nI (6 * k)) + 3) = (nI (6 * k + 3)) from nI_add (6 * k) 3]
  refine m_siald (pc' := 201) (j := 6 * k + 3) hS dL_law_200 rfl (by omega) hL31 rfl ?_
  refine m_xload_n (pc' := 202) dL_law_201 rfl rfl ?_
  refine m_iload_n (pc' := 203) dL_law_202 rfl rfl ?_
  refine m_iconst (pc' := 204) (v := 4) dL_law_203 (by decide) rfl ?_
  refine m_iadd (pc' := 205) dL_law_204 rfl ?_
  rw [show ((nI (6 * k)) + 4) = (nI (6 * k + 4)) from nI_add (6 * k) 4]
  refine m_siald (pc' := 206) (j := 6 * k + 4) hS dL_law_205 rfl (by omega) hL31 rfl ?_
  refine m_xload_n (pc' := 207) dL_law_206 rfl rfl ?_
  refine m_iload_n (pc' := 208) dL_law_207 rfl rfl ?_
  refine m_iconst (pc' := 209) (v := 5) dL_law_208 (by decide) rfl ?_
  refine m_iadd (pc' := 210) dL_law_209 rfl ?_
  rw [show ((nI (6 * k)) + 5) = (nI (6 * k + 5)) from nI_add (6 * k) 5]
  refine m_siald (pc' := 211) (j := 6 * k + 5) hS dL_law_210 rfl (by omega) hL31 rfl ?_
  refine m_callV (pc' := 214) (A := [.int (xs (6 * k + 1)), .int (xs (6 * k + 2)), .int (xs (6 * k + 3)), .int (xs (6 * k + 4)), .int (xs (6 * k + 5))]) (rest := [.int ((opSetSource A (xs (6 * k + 1)) (xs (6 * k + 2)) (xs (6 * k + 3)) (xs (6 * k + 4)) (xs (6 * k + 5))).1)]) (b := 214) cl_L_law_17 dL_law_211 rfl rfl (Nat.le_of_ble_eq_true rfl) ⟨Nat.le_of_ble_eq_true rfl, Nat.le_of_ble_eq_true rfl⟩ (by decide) rfl rfl rfl rfl ?_
  refine p_setSource eM (fun f f0 fM => ?_)
  show mM G (mLw nm) 214 [some (.long 0), some (.ref 0), some (.ref 214), some (.int (nI (6 * k)))] [.int ((opSetSource A (xs (6 * k + 1)) (xs (6 * k + 2)) (xs (6 * k + 3)) (xs (6 * k + 4)) (xs (6 * k + 5))).1), .int ((opSetSource A (xs (6 * k + 1)) (xs (6 * k + 2)) (xs (6 * k + 3)) (xs (6 * k + 4)) (xs (6 * k + 5))).1)] S1 f (221, 29311) Q
  have fC := CR_mf eC f0
  refine m_icmp_eq (tgt := 877) (pc' := 217) dL_law_214 (by decide) rfl (fun h214 => ?_) (fun h214 => absurd h214 (fun z => z rfl))
  exact hK f fC fM (O_setSource hO)
set_option maxHeartbeats 4000000 in
set_option maxRecDepth 100000 in
theorem lw_c1 {A : AS} {k : Nat} (hS : SCR G L xs) (hL31 : L < 2 ^ 31) (hk6 : 6 * k + 6 ≤ L) (hC : CR d A) (hM : MM d A) (hO : OK A) (hK : ∀ d', CR d' ((opSetRes A (xs (6 * k + 1)) (xs (6 * k + 2))).2) → MM d' ((opSetRes A (xs (6 * k + 1)) (xs (6 * k + 2))).2) → OK ((opSetRes A (xs (6 * k + 1)) (xs (6 * k + 2))).2) → mM G (mLw nm) 877 [some (.long 0), some (.ref 0), some (.ref 214), some (.int (nI (6 * k)))] [] S1 d' (221, 29311) Q) : mM G (mLw nm) 219 [some (.long 0), some (.ref 0), some (.ref 214), some (.int (nI (6 * k)))] [] S1 d (221, 29311) Q := by
  refine m_aload_n (pc' := 220) dL_law_219 rfl rfl ?_
  refine m_xload_n (pc' := 221) dL_law_220 rfl rfl ?_
  refine m_iload_n (pc' := 222) dL_law_221 rfl rfl ?_
  refine m_iconst (pc' := 223) (v := 1) dL_law_222 (by decide) rfl ?_
  refine m_iadd (pc' := 224) dL_law_223 rfl ?_
  rw [show ((nI (6 * k)) + 1) = (nI (6 * k + 1)) from nI_add (6 * k) 1]
  refine m_siald (pc' := 225) (j := 6 * k + 1) hS dL_law_224 rfl (by omega) hL31 rfl ?_
  refine m_xload_n (pc' := 226) dL_law_225 rfl rfl ?_
  refine m_iload_n (pc' := 227) dL_law_226 rfl rfl ?_
  refine m_iconst (pc' := 228) (v := 2) dL_law_227 (by decide) rfl ?_
  refine m_iadd (pc' := 229) dL_law_228 rfl ?_
  rw [show ((nI (6 * k)) + 2) = (nI (6 * k + 2)) from nI_add (6 * k) 2]
  refine m_siald (pc' := 230) (j := 6 * k + 2) hS dL_law_229 rfl (by omega) hL31 rfl ?_
  refine m_callV (pc' := 233) (A := [.int (xs (6 * k + 1)), .int (xs (6 * k + 2))]) (rest := []) (b := 0) cl_L_law_18 dL_law_230 rfl rfl (Nat.le_of_ble_eq_true rfl) ⟨Nat.le_of_ble_eq_true rfl, Nat.le_of_ble_eq_true rfl⟩ (by decide) rfl rfl rfl rfl ?_
  refine k_setRes hC hO (fun e e0 eC => ?_)
  show mM G (mLw nm) 233 [some (.long 0), some (.ref 0), some (.ref 214), some (.int (nI (6 * k)))] [.int ((opSetRes A (xs (6 * k + 1)) (xs (6 * k + 2))).1)] S1 e (221, 29311) Q
  have eM := MM_cf hM e0
  refine m_aload_n (pc' := 234) dL_law_233 rfl rfl ?_
  refine m_xload_n (pc' := 235) dL_law_234 rfl rfl ?_
  refine m_iload_n (pc' := 236) dL_law_235 rfl rfl ?_
  refine m_iconst (pc' := 237) (v := 1) dL_law_236 (by decide) rfl ?_
  refine m_iadd (pc' := 238) dL_law_237 rfl ?_
  rw [show ((nI (6 * k)) + 1) = (nI (6 * k + 1)) from nI_add (6 * k) 1]
  refine m_siald (pc' := 239) (j := 6 * k + 1) hS dL_law_238 rfl (by omega) hL31 rfl ?_
  refine m_xload_n (pc' := 240) dL_law_239 rfl rfl ?_
  refine m_iload_n (pc' := 241) dL_law_240 rfl rfl ?_
  refine m_iconst (pc' := 242) (v := 2) dL_law_241 (by decide) rfl ?_
  refine m_iadd (pc' := 243) dL_law_242 rfl ?_
  rw [show ((nI (6 * k)) + 2) = (nI (6 * k + 2)) from nI_add (6 * k) 2]
  refine m_siald (pc' := 244) (j := 6 * k + 2) hS dL_law_243 rfl (by omega) hL31 rfl ?_
  refine m_callV (pc' := 247) (A := [.int (xs (6 * k + 1)), .int (xs (6 * k + 2))]) (rest := [.int ((opSetRes A (xs (6 * k + 1)) (xs (6 * k + 2))).1)]) (b := 214) cl_L_law_22 dL_law_244 rfl rfl (Nat.le_of_ble_eq_true rfl) ⟨Nat.le_of_ble_eq_true rfl, Nat.le_of_ble_eq_true rfl⟩ (by decide) rfl rfl rfl rfl ?_
  refine p_setRes eM (fun f f0 fM => ?_)
  show mM G (mLw nm) 247 [some (.long 0), some (.ref 0), some (.ref 214), some (.int (nI (6 * k)))] [.int ((opSetRes A (xs (6 * k + 1)) (xs (6 * k + 2))).1), .int ((opSetRes A (xs (6 * k + 1)) (xs (6 * k + 2))).1)] S1 f (221, 29311) Q
  have fC := CR_mf eC f0
  refine m_icmp_eq (tgt := 877) (pc' := 250) dL_law_247 (by decide) rfl (fun h247 => ?_) (fun h247 => absurd h247 (fun z => z rfl))
  exact hK f fC fM (O_setRes hO)
set_option maxHeartbeats 4000000 in
set_option maxRecDepth 100000 in
theorem lw_c2 {A : AS} {k : Nat} (hS : SCR G L xs) (hL31 : L < 2 ^ 31) (hk6 : 6 * k + 6 ≤ L) (hC : CR d A) (hM : MM d A) (hO : OK A) (hK : ∀ d', CR d' ((opSet A (xs (6 * k + 1)) (xs (6 * k + 2))).2) → MM d' ((opSet A (xs (6 * k + 1)) (xs (6 * k + 2))).2) → OK ((opSet A (xs (6 * k + 1)) (xs (6 * k + 2))).2) → mM G (mLw nm) 877 [some (.long 0), some (.ref 0), some (.ref 214), some (.int (nI (6 * k)))] [] S1 d' (221, 29311) Q) : mM G (mLw nm) 252 [some (.long 0), some (.ref 0), some (.ref 214), some (.int (nI (6 * k)))] [] S1 d (221, 29311) Q := by
  refine m_aload_n (pc' := 253) dL_law_252 rfl rfl ?_
  refine m_xload_n (pc' := 254) dL_law_253 rfl rfl ?_
  refine m_iload_n (pc' := 255) dL_law_254 rfl rfl ?_
  refine m_iconst (pc' := 256) (v := 1) dL_law_255 (by decide) rfl ?_
  refine m_iadd (pc' := 257) dL_law_256 rfl ?_
  rw [show ((nI (6 * k)) + 1) = (nI (6 * k + 1)) from nI_add (6 * k) 1]
  refine m_siald (pc' := 258) (j := 6 * k + 1) hS dL_law_257 rfl (by omega) hL31 rfl ?_
  refine m_xload_n (pc' := 259) dL_law_258 rfl rfl ?_
  refine m_iload_n (pc' := 260) dL_law_259 rfl rfl ?_
  refine m_iconst (pc' := 261) (v := 2) dL_law_260 (by decide) rfl ?_
  refine m_iadd (pc' := 262) dL_law_261 rfl ?_
  rw [show ((nI (6 * k)) + 2) = (nI (6 * k + 2)) from nI_add (6 * k) 2]
  refine m_siald (pc' := 263) (j := 6 * k + 2) hS dL_law_262 rfl (by omega) hL31 rfl ?_
  refine m_callV (pc' := 266) (A := [.int (xs (6 * k + 1)), .int (xs (6 * k + 2))]) (rest := []) (b := 0) cl_L_law_23 dL_law_263 rfl rfl (Nat.le_of_ble_eq_true rfl) ⟨Nat.le_of_ble_eq_true rfl, Nat.le_of_ble_eq_true rfl⟩ (by decide) rfl rfl rfl rfl ?_
  refine k_set hC hO (fun e e0 eC => ?_)
  show mM G (mLw nm) 266 [some (.long 0), some (.ref 0), some (.ref 214), some (.int (nI (6 * k)))] [.int ((opSet A (xs (6 * k + 1)) (xs (6 * k + 2))).1)] S1 e (221, 29311) Q
  have eM := MM_cf hM e0
  refine m_aload_n (pc' := 267) dL_law_266 rfl rfl ?_
  refine m_xload_n (pc' := 268) dL_law_267 rfl rfl ?_
  refine m_iload_n (pc' := 269) dL_law_268 rfl rfl ?_
  refine m_iconst (pc' := 270) (v := 1) dL_law_269 (by decide) rfl ?_
  refine m_iadd (pc' := 271) dL_law_270 rfl ?_
  rw [show ((nI (6 * k)) + 1) = (nI (6 * k + 1)) from nI_add (6 * k) 1]
  refine m_siald (pc' := 272) (j := 6 * k + 1) hS dL_law_271 rfl (by omega) hL31 rfl ?_
  refine m_xload_n (pc' := 273) dL_law_272 rfl rfl ?_
  refine m_iload_n (pc' := 274) dL_law_273 rfl rfl ?_
  refine m_iconst (pc' := 275) (v := 2) dL_law_274 (by decide) rfl ?_
  refine m_iadd (pc' := 276) dL_law_275 rfl ?_
  rw [show ((nI (6 * k)) + 2) = (nI (6 * k + 2)) from nI_add (6 * k) 2]
  refine m_siald (pc' := 277) (j := 6 * k + 2) hS dL_law_276 rfl (by omega) hL31 rfl ?_
  refine m_callV (pc' := 280) (A := [.int (xs (6 * k + 1)), .int (xs (6 * k + 2))]) (rest := [.int ((opSet A (xs (6 * k + 1)) (xs (6 * k + 2))).1)]) (b := 214) cl_L_law_26 dL_law_277 rfl rfl (Nat.le_of_ble_eq_true rfl) ⟨Nat.le_of_ble_eq_true rfl, Nat.le_of_ble_eq_true rfl⟩ (by decide) rfl rfl rfl rfl ?_
  refine p_set eM (fun f f0 fM => ?_)
  show mM G (mLw nm) 280 [some (.long 0), some (.ref 0), some (.ref 214), some (.int (nI (6 * k)))] [.int ((opSet A (xs (6 * k + 1)) (xs (6 * k + 2))).1), .int ((opSet A (xs (6 * k + 1)) (xs (6 * k + 2))).1)] S1 f (221, 29311) Q
  have fC := CR_mf eC f0
  refine m_icmp_eq (tgt := 877) (pc' := 283) dL_law_280 (by decide) rfl (fun h280 => ?_) (fun h280 => absurd h280 (fun z => z rfl))
  exact hK f fC fM (O_set hO)
set_option maxHeartbeats 4000000 in
set_option maxRecDepth 100000 in
theorem lw_c3 {A : AS} {k : Nat} (hS : SCR G L xs) (hL31 : L < 2 ^ 31) (hk6 : 6 * k + 6 ≤ L) (hC : CR d A) (hM : MM d A) (hO : OK A) (hK : ∀ d', CR d' ((opAdd A (xs (6 * k + 1)) (xs (6 * k + 2)) (xs (6 * k + 3))).2) → MM d' ((opAdd A (xs (6 * k + 1)) (xs (6 * k + 2)) (xs (6 * k + 3))).2) → OK ((opAdd A (xs (6 * k + 1)) (xs (6 * k + 2)) (xs (6 * k + 3))).2) → mM G (mLw nm) 877 [some (.long 0), some (.ref 0), some (.ref 214), some (.int (nI (6 * k)))] [] S1 d' (221, 29311) Q) : mM G (mLw nm) 285 [some (.long 0), some (.ref 0), some (.ref 214), some (.int (nI (6 * k)))] [] S1 d (221, 29311) Q := by
  refine m_aload_n (pc' := 286) dL_law_285 rfl rfl ?_
  refine m_xload_n (pc' := 287) dL_law_286 rfl rfl ?_
  refine m_iload_n (pc' := 288) dL_law_287 rfl rfl ?_
  refine m_iconst (pc' := 289) (v := 1) dL_law_288 (by decide) rfl ?_
  refine m_iadd (pc' := 290) dL_law_289 rfl ?_
  rw [show ((nI (6 * k)) + 1) = (nI (6 * k + 1)) from nI_add (6 * k) 1]
  refine m_siald (pc' := 291) (j := 6 * k + 1) hS dL_law_290 rfl (by omega) hL31 rfl ?_
  refine m_xload_n (pc' := 292) dL_law_291 rfl rfl ?_
  refine m_iload_n (pc' := 293) dL_law_292 rfl rfl ?_
  refine m_iconst (pc' := 294) (v := 2) dL_law_293 (by decide) rfl ?_
  refine m_iadd (pc' := 295) dL_law_294 rfl ?_
  rw [show ((nI (6 * k)) + 2) = (nI (6 * k + 2)) from nI_add (6 * k) 2]
  refine m_siald (pc' := 296) (j := 6 * k + 2) hS dL_law_295 rfl (by omega) hL31 rfl ?_
  refine m_xload_n (pc' := 297) dL_law_296 rfl rfl ?_
  refine m_iload_n (pc' := 298) dL_law_297 rfl rfl ?_
  refine m_iconst (pc' := 299) (v := 3) dL_law_298 (by decide) rfl ?_
  refine m_iadd (pc' := 300) dL_law_299 rfl ?_
  rw [show ((nI (6 * k)) + 3) = (nI (6 * k + 3)) from nI_add (6 * k) 3]
  refine m_siald (pc' := 301) (j := 6 * k + 3) hS dL_law_300 rfl (by omega) hL31 rfl ?_
  refine m_callV (pc' := 304) (A := [.int (xs (6 * k + 1)), .int (xs (6 * k + 2)), .int (xs (6 * k + 3))]) (rest := []) (b := 0) cl_L_law_27 dL_law_301 rfl rfl (Nat.le_of_ble_eq_true rfl) ⟨Nat.le_of_ble_eq_true rfl, Nat.le_of_ble_eq_true rfl⟩ (by decide) rfl rfl rfl rfl ?_
  refine k_addEntry hC hO (fun e e0 eC => ?_)
  show mM G (mLw nm) 304 [some (.long 0), some (.ref 0), some (.ref 214), some (.int (nI (6 * k)))] [.int ((opAdd A (xs (6 * k + 1)) (xs (6 * k + 2)) (xs (6 * k + 3))).1)] S1 e (221, 29311) Q
  have eM := MM_cf hM e0
  refine m_aload_n (pc' := 305) dL_law_304 rfl rfl ?_
  refine m_xload_n (pc' := 306) dL_law_305 rfl rfl ?_
  refine m_iload_n (pc' := 307) dL_law_306 rfl rfl ?_
  refine m_iconst (pc' := 308) (v := 1) dL_law_307 (by decide) rfl ?_
  refine m_iadd (pc' := 309) dL_law_308 rfl ?_
  rw [show ((nI (6 * k)) + 1) = (nI (6 * k + 1)) from nI_add (6 * k) 1]
  refine m_siald (pc' := 310) (j := 6 * k + 1) hS dL_law_309 rfl (by omega) hL31 rfl ?_
  refine m_xload_n (pc' := 311) dL_law_310 rfl rfl ?_
  refine m_iload_n (pc' := 312) dL_law_311 rfl rfl ?_
  refine m_iconst (pc' := 313) (v := 2) dL_law_312 (by decide) rfl ?_
  refine m_iadd (pc' := 314) dL_law_313 rfl ?_
  rw [show ((nI (6 * k)) + 2) = (nI (6 * k + 2)) from nI_add (6 * k) 2]
  refine m_siald (pc' := 315) (j := 6 * k + 2) hS dL_law_314 rfl (by omega) hL31 rfl ?_
  refine m_xload_n (pc' := 316) dL_law_315 rfl rfl ?_
  refine m_iload_n (pc' := 317) dL_law_316 rfl rfl ?_
  refine m_iconst (pc' := 318) (v := 3) dL_law_317 (by decide) rfl ?_
  refine m_iadd (pc' := 319) dL_law_318 rfl ?_
  rw [show ((nI (6 * k)) + 3) = (nI (6 * k + 3)) from nI_add (6 * k) 3]
  refine m_siald (pc' := 320) (j := 6 * k + 3) hS dL_law_319 rfl (by omega) hL31 rfl ?_
  refine m_callV (pc' := 323) (A := [.int (xs (6 * k + 1)), .int (xs (6 * k + 2)), .int (xs (6 * k + 3))]) (rest := [.int ((opAdd A (xs (6 * k + 1)) (xs (6 * k + 2)) (xs (6 * k + 3))).1)]) (b := 214) cl_L_law_31 dL_law_320 rfl rfl (Nat.le_of_ble_eq_true rfl) ⟨Nat.le_of_ble_eq_true rfl, Nat.le_of_ble_eq_true rfl⟩ (by decide) rfl rfl rfl rfl ?_
  refine p_addEntry eM hO (fun f f0 fM => ?_)
  show mM G (mLw nm) 323 [some (.long 0), some (.ref 0), some (.ref 214), some (.int (nI (6 * k)))] [.int ((opAdd A (xs (6 * k + 1)) (xs (6 * k + 2)) (xs (6 * k + 3))).1), .int ((opAdd A (xs (6 * k + 1)) (xs (6 * k + 2)) (xs (6 * k + 3))).1)] S1 f (221, 29311) Q
  have fC := CR_mf eC f0
  refine m_icmp_eq (tgt := 877) (pc' := 326) dL_law_323 (by decide) rfl (fun h323 => ?_) (fun h323 => absurd h323 (fun z => z rfl))
  exact hK f fC fM (O_add hO)
set_option maxHeartbeats 4000000 in
set_option maxRecDepth 100000 in
theorem lw_c4 {A : AS} {k : Nat} (hS : SCR G L xs) (hL31 : L < 2 ^ 31) (hk6 : 6 * k + 6 ≤ L) (hC : CR d A) (hM : MM d A) (hO : OK A) (hK : ∀ d', CR d' ((opRem A (xs (6 * k + 1))).2) → MM d' ((opRem A (xs (6 * k + 1))).2) → OK ((opRem A (xs (6 * k + 1))).2) → mM G (mLw nm) 877 [some (.long 0), some (.ref 0), some (.ref 214), some (.int (nI (6 * k)))] [] S1 d' (221, 29311) Q) : mM G (mLw nm) 328 [some (.long 0), some (.ref 0), some (.ref 214), some (.int (nI (6 * k)))] [] S1 d (221, 29311) Q := by
  refine m_aload_n (pc' := 329) dL_law_328 rfl rfl ?_
  refine m_xload_n (pc' := 330) dL_law_329 rfl rfl ?_
  refine m_iload_n (pc' := 331) dL_law_330 rfl rfl ?_
  refine m_iconst (pc' := 332) (v := 1) dL_law_331 (by decide) rfl ?_
  refine m_iadd (pc' := 333) dL_law_332 rfl ?_
  rw [show ((nI (6 * k)) + 1) = (nI (6 * k + 1)) from nI_add (6 * k) 1]
  refine m_siald (pc' := 334) (j := 6 * k + 1) hS dL_law_333 rfl (by omega) hL31 rfl ?_
  refine m_callV (pc' := 337) (A := [.int (xs (6 * k + 1))]) (rest := []) (b := 0) cl_L_law_32 dL_law_334 rfl rfl (Nat.le_of_ble_eq_true rfl) ⟨Nat.le_of_ble_eq_true rfl, Nat.le_of_ble_eq_true rfl⟩ (by decide) rfl rfl rfl rfl ?_
  refine k_removeEntry hC hO (fun e e0 eC => ?_)
  show mM G (mLw nm) 337 [some (.long 0), some (.ref 0), some (.ref 214), some (.int (nI (6 * k)))] [.int ((opRem A (xs (6 * k + 1))).1)] S1 e (221, 29311) Q
  have eM := MM_cf hM e0
  refine m_aload_n (pc' := 338) dL_law_337 rfl rfl ?_
  refine m_xload_n (pc' := 339) dL_law_338 rfl rfl ?_
  refine m_iload_n (pc' := 340) dL_law_339 rfl rfl ?_
  refine m_iconst (pc' := 341) (v := 1) dL_law_340 (by decide) rfl ?_
  refine m_iadd (pc' := 342) dL_law_341 rfl ?_
  rw [show ((nI (6 * k)) + 1) = (nI (6 * k + 1)) from nI_add (6 * k) 1]
  refine m_siald (pc' := 343) (j := 6 * k + 1) hS dL_law_342 rfl (by omega) hL31 rfl ?_
  refine m_callV (pc' := 346) (A := [.int (xs (6 * k + 1))]) (rest := [.int ((opRem A (xs (6 * k + 1))).1)]) (b := 214) cl_L_law_36 dL_law_343 rfl rfl (Nat.le_of_ble_eq_true rfl) ⟨Nat.le_of_ble_eq_true rfl, Nat.le_of_ble_eq_true rfl⟩ (by decide) rfl rfl rfl rfl ?_
  refine p_removeEntry eM hO (fun f f0 fM => ?_)
  show mM G (mLw nm) 346 [some (.long 0), some (.ref 0), some (.ref 214), some (.int (nI (6 * k)))] [.int ((opRem A (xs (6 * k + 1))).1), .int ((opRem A (xs (6 * k + 1))).1)] S1 f (221, 29311) Q
  have fC := CR_mf eC f0
  refine m_icmp_eq (tgt := 877) (pc' := 349) dL_law_346 (by decide) rfl (fun h346 => ?_) (fun h346 => absurd h346 (fun z => z rfl))
  exact hK f fC fM (O_rem hO)
set_option maxHeartbeats 4000000 in
set_option maxRecDepth 100000 in
theorem lw_c5 {A : AS} {k : Nat} (hS : SCR G L xs) (hL31 : L < 2 ^ 31) (hk6 : 6 * k + 6 ≤ L) (hC : CR d A) (hM : MM d A) (hO : OK A) (hK : ∀ d', CR d' ((opSettle A (xs (6 * k + 1)) (xs (6 * k + 2))).2) → MM d' ((opSettle A (xs (6 * k + 1)) (xs (6 * k + 2))).2) → OK ((opSettle A (xs (6 * k + 1)) (xs (6 * k + 2))).2) → mM G (mLw nm) 877 [some (.long 0), some (.ref 0), some (.ref 214), some (.int (nI (6 * k)))] [] S1 d' (221, 29311) Q) : mM G (mLw nm) 351 [some (.long 0), some (.ref 0), some (.ref 214), some (.int (nI (6 * k)))] [] S1 d (221, 29311) Q := by
  refine m_aload_n (pc' := 352) dL_law_351 rfl rfl ?_
  refine m_xload_n (pc' := 353) dL_law_352 rfl rfl ?_
  refine m_iload_n (pc' := 354) dL_law_353 rfl rfl ?_
  refine m_iconst (pc' := 355) (v := 1) dL_law_354 (by decide) rfl ?_
  refine m_iadd (pc' := 356) dL_law_355 rfl ?_
  rw [show ((nI (6 * k)) + 1) = (nI (6 * k + 1)) from nI_add (6 * k) 1]
  refine m_siald (pc' := 357) (j := 6 * k + 1) hS dL_law_356 rfl (by omega) hL31 rfl ?_
  refine m_xload_n (pc' := 358) dL_law_357 rfl rfl ?_
  refine m_iload_n (pc' := 359) dL_law_358 rfl rfl ?_
  refine m_iconst (pc' := 360) (v := 2) dL_law_359 (by decide) rfl ?_
  refine m_iadd (pc' := 361) dL_law_360 rfl ?_
  rw [show ((nI (6 * k)) + 2) = (nI (6 * k + 2)) from nI_add (6 * k) 2]
  refine m_siald (pc' := 362) (j := 6 * k + 2) hS dL_law_361 rfl (by omega) hL31 rfl ?_
  refine m_callV (pc' := 365) (A := [.int (xs (6 * k + 1)), .int (xs (6 * k + 2))]) (rest := []) (b := 0) cl_L_law_37 dL_law_362 rfl rfl (Nat.le_of_ble_eq_true rfl) ⟨Nat.le_of_ble_eq_true rfl, Nat.le_of_ble_eq_true rfl⟩ (by decide) rfl rfl rfl rfl ?_
  refine k_setSettle hC hO (fun e e0 eC => ?_)
  show mM G (mLw nm) 365 [some (.long 0), some (.ref 0), some (.ref 214), some (.int (nI (6 * k)))] [.int ((opSettle A (xs (6 * k + 1)) (xs (6 * k + 2))).1)] S1 e (221, 29311) Q
  have eM := MM_cf hM e0
  refine m_aload_n (pc' := 366) dL_law_365 rfl rfl ?_
  refine m_xload_n (pc' := 367) dL_law_366 rfl rfl ?_
  refine m_iload_n (pc' := 368) dL_law_367 rfl rfl ?_
  refine m_iconst (pc' := 369) (v := 1) dL_law_368 (by decide) rfl ?_
  refine m_iadd (pc' := 370) dL_law_369 rfl ?_
  rw [show ((nI (6 * k)) + 1) = (nI (6 * k + 1)) from nI_add (6 * k) 1]
  refine m_siald (pc' := 371) (j := 6 * k + 1) hS dL_law_370 rfl (by omega) hL31 rfl ?_
  refine m_xload_n (pc' := 372) dL_law_371 rfl rfl ?_
  refine m_iload_n (pc' := 373) dL_law_372 rfl rfl ?_
  refine m_iconst (pc' := 374) (v := 2) dL_law_373 (by decide) rfl ?_
  refine m_iadd (pc' := 375) dL_law_374 rfl ?_
  rw [show ((nI (6 * k)) + 2) = (nI (6 * k + 2)) from nI_add (6 * k) 2]
  refine m_siald (pc' := 376) (j := 6 * k + 2) hS dL_law_375 rfl (by omega) hL31 rfl ?_
  refine m_callV (pc' := 379) (A := [.int (xs (6 * k + 1)), .int (xs (6 * k + 2))]) (rest := [.int ((opSettle A (xs (6 * k + 1)) (xs (6 * k + 2))).1)]) (b := 214) cl_L_law_40 dL_law_376 rfl rfl (Nat.le_of_ble_eq_true rfl) ⟨Nat.le_of_ble_eq_true rfl, Nat.le_of_ble_eq_true rfl⟩ (by decide) rfl rfl rfl rfl ?_
  refine p_setSettle eM hO (fun f f0 fM => ?_)
  show mM G (mLw nm) 379 [some (.long 0), some (.ref 0), some (.ref 214), some (.int (nI (6 * k)))] [.int ((opSettle A (xs (6 * k + 1)) (xs (6 * k + 2))).1), .int ((opSettle A (xs (6 * k + 1)) (xs (6 * k + 2))).1)] S1 f (221, 29311) Q
  have fC := CR_mf eC f0
  refine m_icmp_eq (tgt := 877) (pc' := 382) dL_law_379 (by decide) rfl (fun h379 => ?_) (fun h379 => absurd h379 (fun z => z rfl))
  exact hK f fC fM (O_settle hO)
set_option maxHeartbeats 4000000 in
set_option maxRecDepth 100000 in
theorem lw_c6 {A : AS} {k : Nat} (hS : SCR G L xs) (hL31 : L < 2 ^ 31) (hk6 : 6 * k + 6 ≤ L) (hC : CR d A) (hM : MM d A) (hO : OK A) (hK : ∀ d', CR d' ((opOrder A (xs (6 * k + 1))).2) → MM d' ((opOrder A (xs (6 * k + 1))).2) → OK ((opOrder A (xs (6 * k + 1))).2) → mM G (mLw nm) 877 [some (.long 0), some (.ref 0), some (.ref 214), some (.int (nI (6 * k)))] [] S1 d' (221, 29311) Q) : mM G (mLw nm) 384 [some (.long 0), some (.ref 0), some (.ref 214), some (.int (nI (6 * k)))] [] S1 d (221, 29311) Q := by
  refine m_aload_n (pc' := 385) dL_law_384 rfl rfl ?_
  refine m_xload_n (pc' := 386) dL_law_385 rfl rfl ?_
  refine m_iload_n (pc' := 387) dL_law_386 rfl rfl ?_
  refine m_iconst (pc' := 388) (v := 1) dL_law_387 (by decide) rfl ?_
  refine m_iadd (pc' := 389) dL_law_388 rfl ?_
  rw [show ((nI (6 * k)) + 1) = (nI (6 * k + 1)) from nI_add (6 * k) 1]
  refine m_siald (pc' := 390) (j := 6 * k + 1) hS dL_law_389 rfl (by omega) hL31 rfl ?_
  refine m_callV (pc' := 393) (A := [.int (xs (6 * k + 1))]) (rest := []) (b := 0) cl_L_law_41 dL_law_390 rfl rfl (Nat.le_of_ble_eq_true rfl) ⟨Nat.le_of_ble_eq_true rfl, Nat.le_of_ble_eq_true rfl⟩ (by decide) rfl rfl rfl rfl ?_
  refine k_order hC hO (fun e e0 eC => ?_)
  show mM G (mLw nm) 393 [some (.long 0), some (.ref 0), some (.ref 214), some (.int (nI (6 * k)))] [.int ((opOrder A (xs (6 * k + 1))).1)] S1 e (221, 29311) Q
  have eM := MM_cf hM e0
  refine m_aload_n (pc' := 394) dL_law_393 rfl rfl ?_
  refine m_xload_n (pc' := 395) dL_law_394 rfl rfl ?_
  refine m_iload_n (pc' := 396) dL_law_395 rfl rfl ?_
  refine m_iconst (pc' := 397) (v := 1) dL_law_396 (by decide) rfl ?_
  refine m_iadd (pc' := 398) dL_law_397 rfl ?_
  rw [show ((nI (6 * k)) + 1) = (nI (6 * k + 1)) from nI_add (6 * k) 1]
  refine m_siald (pc' := 399) (j := 6 * k + 1) hS dL_law_398 rfl (by omega) hL31 rfl ?_
  refine m_callV (pc' := 402) (A := [.int (xs (6 * k + 1))]) (rest := [.int ((opOrder A (xs (6 * k + 1))).1)]) (b := 214) cl_L_law_44 dL_law_399 rfl rfl (Nat.le_of_ble_eq_true rfl) ⟨Nat.le_of_ble_eq_true rfl, Nat.le_of_ble_eq_true rfl⟩ (by decide) rfl rfl rfl rfl ?_
  refine p_order eM hO (fun f f0 fM => ?_)
  show mM G (mLw nm) 402 [some (.long 0), some (.ref 0), some (.ref 214), some (.int (nI (6 * k)))] [.int ((opOrder A (xs (6 * k + 1))).1), .int ((opOrder A (xs (6 * k + 1))).1)] S1 f (221, 29311) Q
  have fC := CR_mf eC f0
  refine m_icmp_eq (tgt := 877) (pc' := 405) dL_law_402 (by decide) rfl (fun h402 => ?_) (fun h402 => absurd h402 (fun z => z rfl))
  exact hK f fC fM (O_order hO)
set_option maxHeartbeats 4000000 in
set_option maxRecDepth 100000 in
theorem lw_c7 {A : AS} {k : Nat} (hS : SCR G L xs) (hL31 : L < 2 ^ 31) (hk6 : 6 * k + 6 ≤ L) (hC : CR d A) (hM : MM d A) (hO : OK A) (hK : ∀ d', CR d' ((opScan A (xs (6 * k + 1))).2) → MM d' ((opScan A (xs (6 * k + 1))).2) → OK ((opScan A (xs (6 * k + 1))).2) → mM G (mLw nm) 877 [some (.long 0), some (.ref 0), some (.ref 214), some (.int (nI (6 * k)))] [] S1 d' (221, 29311) Q) : mM G (mLw nm) 407 [some (.long 0), some (.ref 0), some (.ref 214), some (.int (nI (6 * k)))] [] S1 d (221, 29311) Q := by
  refine m_aload_n (pc' := 408) dL_law_407 rfl rfl ?_
  refine m_xload_n (pc' := 409) dL_law_408 rfl rfl ?_
  refine m_iload_n (pc' := 410) dL_law_409 rfl rfl ?_
  refine m_iconst (pc' := 411) (v := 1) dL_law_410 (by decide) rfl ?_
  refine m_iadd (pc' := 412) dL_law_411 rfl ?_
  rw [show ((nI (6 * k)) + 1) = (nI (6 * k + 1)) from nI_add (6 * k) 1]
  refine m_siald (pc' := 413) (j := 6 * k + 1) hS dL_law_412 rfl (by omega) hL31 rfl ?_
  refine m_callV (pc' := 416) (A := [.int (xs (6 * k + 1))]) (rest := []) (b := 0) cl_L_law_45 dL_law_413 rfl rfl (Nat.le_of_ble_eq_true rfl) ⟨Nat.le_of_ble_eq_true rfl, Nat.le_of_ble_eq_true rfl⟩ (by decide) rfl rfl rfl rfl ?_
  refine k_scan hC hO (fun e e0 eC => ?_)
  show mM G (mLw nm) 416 [some (.long 0), some (.ref 0), some (.ref 214), some (.int (nI (6 * k)))] [.int ((opScan A (xs (6 * k + 1))).1)] S1 e (221, 29311) Q
  have eM := MM_cf hM e0
  refine m_aload_n (pc' := 417) dL_law_416 rfl rfl ?_
  refine m_xload_n (pc' := 418) dL_law_417 rfl rfl ?_
  refine m_iload_n (pc' := 419) dL_law_418 rfl rfl ?_
  refine m_iconst (pc' := 420) (v := 1) dL_law_419 (by decide) rfl ?_
  refine m_iadd (pc' := 421) dL_law_420 rfl ?_
  rw [show ((nI (6 * k)) + 1) = (nI (6 * k + 1)) from nI_add (6 * k) 1]
  refine m_siald (pc' := 422) (j := 6 * k + 1) hS dL_law_421 rfl (by omega) hL31 rfl ?_
  refine m_callV (pc' := 425) (A := [.int (xs (6 * k + 1))]) (rest := [.int ((opScan A (xs (6 * k + 1))).1)]) (b := 214) cl_L_law_48 dL_law_422 rfl rfl (Nat.le_of_ble_eq_true rfl) ⟨Nat.le_of_ble_eq_true rfl, Nat.le_of_ble_eq_true rfl⟩ (by decide) rfl rfl rfl rfl ?_
  refine p_scan eM hO (fun f f0 fM => ?_)
  show mM G (mLw nm) 425 [some (.long 0), some (.ref 0), some (.ref 214), some (.int (nI (6 * k)))] [.int ((opScan A (xs (6 * k + 1))).1), .int ((opScan A (xs (6 * k + 1))).1)] S1 f (221, 29311) Q
  have fC := CR_mf eC f0
  refine m_icmp_eq (tgt := 877) (pc' := 428) dL_law_425 (by decide) rfl (fun h425 => ?_) (fun h425 => absurd h425 (fun z => z rfl))
  exact hK f fC fM (O_scan hO)
set_option maxHeartbeats 4000000 in
set_option maxRecDepth 100000 in
theorem lw_c8 {A : AS} {k : Nat} (hS : SCR G L xs) (hL31 : L < 2 ^ 31) (hk6 : 6 * k + 6 ≤ L) (hC : CR d A) (hM : MM d A) (hO : OK A) (hK : ∀ d', CR d' ((opPass A (xs (6 * k + 1))).2) → MM d' ((opPass A (xs (6 * k + 1))).2) → OK ((opPass A (xs (6 * k + 1))).2) → mM G (mLw nm) 877 [some (.long 0), some (.ref 0), some (.ref 214), some (.int (nI (6 * k)))] [] S1 d' (221, 29311) Q) : mM G (mLw nm) 430 [some (.long 0), some (.ref 0), some (.ref 214), some (.int (nI (6 * k)))] [] S1 d (221, 29311) Q := by
  refine m_aload_n (pc' := 431) dL_law_430 rfl rfl ?_
  refine m_xload_n (pc' := 432) dL_law_431 rfl rfl ?_
  refine m_iload_n (pc' := 433) dL_law_432 rfl rfl ?_
  refine m_iconst (pc' := 434) (v := 1) dL_law_433 (by decide) rfl ?_
  refine m_iadd (pc' := 435) dL_law_434 rfl ?_
  rw [show ((nI (6 * k)) + 1) = (nI (6 * k + 1)) from nI_add (6 * k) 1]
  refine m_siald (pc' := 436) (j := 6 * k + 1) hS dL_law_435 rfl (by omega) hL31 rfl ?_
  refine m_callV (pc' := 439) (A := [.int (xs (6 * k + 1))]) (rest := []) (b := 0) cl_L_law_49 dL_law_436 rfl rfl (Nat.le_of_ble_eq_true rfl) ⟨Nat.le_of_ble_eq_true rfl, Nat.le_of_ble_eq_true rfl⟩ (by decide) rfl rfl rfl rfl ?_
  refine k_pass hC hO (fun e e0 eC => ?_)
  show mM G (mLw nm) 439 [some (.long 0), some (.ref 0), some (.ref 214), some (.int (nI (6 * k)))] [.int ((opPass A (xs (6 * k + 1))).1)] S1 e (221, 29311) Q
  have eM := MM_cf hM e0
  refine m_aload_n (pc' := 440) dL_law_439 rfl rfl ?_
  refine m_xload_n (pc' := 441) dL_law_440 rfl rfl ?_
  refine m_iload_n (pc' := 442) dL_law_441 rfl rfl ?_
  refine m_iconst (pc' := 443) (v := 1) dL_law_442 (by decide) rfl ?_
  refine m_iadd (pc' := 444) dL_law_443 rfl ?_
  rw [show ((nI (6 * k)) + 1) = (nI (6 * k + 1)) from nI_add (6 * k) 1]
  refine m_siald (pc' := 445) (j := 6 * k + 1) hS dL_law_444 rfl (by omega) hL31 rfl ?_
  refine m_callV (pc' := 448) (A := [.int (xs (6 * k + 1))]) (rest := [.int ((opPass A (xs (6 * k + 1))).1)]) (b := 214) cl_L_law_52 dL_law_445 rfl rfl (Nat.le_of_ble_eq_true rfl) ⟨Nat.le_of_ble_eq_true rfl, Nat.le_of_ble_eq_true rfl⟩ (by decide) rfl rfl rfl rfl ?_
  refine p_pass eM (fun f f0 fM => ?_)
  show mM G (mLw nm) 448 [some (.long 0), some (.ref 0), some (.ref 214), some (.int (nI (6 * k)))] [.int ((opPass A (xs (6 * k + 1))).1), .int ((opPass A (xs (6 * k + 1))).1)] S1 f (221, 29311) Q
  have fC := CR_mf eC f0
  refine m_icmp_eq (tgt := 877) (pc' := 451) dL_law_448 (by decide) rfl (fun h448 => ?_) (fun h448 => absurd h448 (fun z => z rfl))
  exact hK f fC fM (O_pass hO)
set_option maxHeartbeats 4000000 in
set_option maxRecDepth 100000 in
theorem lw_c9 {A : AS} {k : Nat} (hS : SCR G L xs) (hL31 : L < 2 ^ 31) (hk6 : 6 * k + 6 ≤ L) (hC : CR d A) (hM : MM d A) (hO : OK A) (hK : ∀ d', CR d' ((opTake A (xs (6 * k + 1))).2) → MM d' ((opTake A (xs (6 * k + 1))).2) → OK ((opTake A (xs (6 * k + 1))).2) → mM G (mLw nm) 877 [some (.long 0), some (.ref 0), some (.ref 214), some (.int (nI (6 * k)))] [] S1 d' (221, 29311) Q) : mM G (mLw nm) 453 [some (.long 0), some (.ref 0), some (.ref 214), some (.int (nI (6 * k)))] [] S1 d (221, 29311) Q := by
  refine m_aload_n (pc' := 454) dL_law_453 rfl rfl ?_
  refine m_xload_n (pc' := 455) dL_law_454 rfl rfl ?_
  refine m_iload_n (pc' := 456) dL_law_455 rfl rfl ?_
  refine m_iconst (pc' := 457) (v := 1) dL_law_456 (by decide) rfl ?_
  refine m_iadd (pc' := 458) dL_law_457 rfl ?_
  rw [show ((nI (6 * k)) + 1) = (nI (6 * k + 1)) from nI_add (6 * k) 1]
  refine m_siald (pc' := 459) (j := 6 * k + 1) hS dL_law_458 rfl (by omega) hL31 rfl ?_
  refine m_callV (pc' := 462) (A := [.int (xs (6 * k + 1))]) (rest := []) (b := 0) cl_L_law_53 dL_law_459 rfl rfl (Nat.le_of_ble_eq_true rfl) ⟨Nat.le_of_ble_eq_true rfl, Nat.le_of_ble_eq_true rfl⟩ (by decide) rfl rfl rfl rfl ?_
  refine k_take hC hO (fun e e0 eC => ?_)
  show mM G (mLw nm) 462 [some (.long 0), some (.ref 0), some (.ref 214), some (.int (nI (6 * k)))] [.int ((opTake A (xs (6 * k + 1))).1)] S1 e (221, 29311) Q
  have eM := MM_cf hM e0
  refine m_aload_n (pc' := 463) dL_law_462 rfl rfl ?_
  refine m_xload_n (pc' := 464) dL_law_463 rfl rfl ?_
  refine m_iload_n (pc' := 465) dL_law_464 rfl rfl ?_
  refine m_iconst (pc' := 466) (v := 1) dL_law_465 (by decide) rfl ?_
  refine m_iadd (pc' := 467) dL_law_466 rfl ?_
  rw [show ((nI (6 * k)) + 1) = (nI (6 * k + 1)) from nI_add (6 * k) 1]
  refine m_siald (pc' := 468) (j := 6 * k + 1) hS dL_law_467 rfl (by omega) hL31 rfl ?_
  refine m_callV (pc' := 471) (A := [.int (xs (6 * k + 1))]) (rest := [.int ((opTake A (xs (6 * k + 1))).1)]) (b := 214) cl_L_law_56 dL_law_468 rfl rfl (Nat.le_of_ble_eq_true rfl) ⟨Nat.le_of_ble_eq_true rfl, Nat.le_of_ble_eq_true rfl⟩ (by decide) rfl rfl rfl rfl ?_
  refine p_take eM (fun f f0 fM => ?_)
  show mM G (mLw nm) 471 [some (.long 0), some (.ref 0), some (.ref 214), some (.int (nI (6 * k)))] [.int ((opTake A (xs (6 * k + 1))).1), .int ((opTake A (xs (6 * k + 1))).1)] S1 f (221, 29311) Q
  have fC := CR_mf eC f0
  refine m_icmp_eq (tgt := 877) (pc' := 474) dL_law_471 (by decide) rfl (fun h471 => ?_) (fun h471 => absurd h471 (fun z => z rfl))
  exact hK f fC fM (O_take hO)
set_option maxHeartbeats 4000000 in
set_option maxRecDepth 100000 in
theorem lw_c10 {A : AS} {k : Nat} (hS : SCR G L xs) (hL31 : L < 2 ^ 31) (hk6 : 6 * k + 6 ≤ L) (hC : CR d A) (hM : MM d A) (hO : OK A) (hK : ∀ d', CR d' ((opRestore A (xs (6 * k + 1))).2) → MM d' ((opRestore A (xs (6 * k + 1))).2) → OK ((opRestore A (xs (6 * k + 1))).2) → mM G (mLw nm) 877 [some (.long 0), some (.ref 0), some (.ref 214), some (.int (nI (6 * k)))] [] S1 d' (221, 29311) Q) : mM G (mLw nm) 476 [some (.long 0), some (.ref 0), some (.ref 214), some (.int (nI (6 * k)))] [] S1 d (221, 29311) Q := by
  refine m_aload_n (pc' := 477) dL_law_476 rfl rfl ?_
  refine m_xload_n (pc' := 478) dL_law_477 rfl rfl ?_
  refine m_iload_n (pc' := 479) dL_law_478 rfl rfl ?_
  refine m_iconst (pc' := 480) (v := 1) dL_law_479 (by decide) rfl ?_
  refine m_iadd (pc' := 481) dL_law_480 rfl ?_
  rw [show ((nI (6 * k)) + 1) = (nI (6 * k + 1)) from nI_add (6 * k) 1]
  refine m_siald (pc' := 482) (j := 6 * k + 1) hS dL_law_481 rfl (by omega) hL31 rfl ?_
  refine m_callV (pc' := 485) (A := [.int (xs (6 * k + 1))]) (rest := []) (b := 0) cl_L_law_57 dL_law_482 rfl rfl (Nat.le_of_ble_eq_true rfl) ⟨Nat.le_of_ble_eq_true rfl, Nat.le_of_ble_eq_true rfl⟩ (by decide) rfl rfl rfl rfl ?_
  refine k_restore hC hO (fun e e0 eC => ?_)
  show mM G (mLw nm) 485 [some (.long 0), some (.ref 0), some (.ref 214), some (.int (nI (6 * k)))] [.int ((opRestore A (xs (6 * k + 1))).1)] S1 e (221, 29311) Q
  have eM := MM_cf hM e0
  refine m_aload_n (pc' := 486) dL_law_485 rfl rfl ?_
  refine m_xload_n (pc' := 487) dL_law_486 rfl rfl ?_
  refine m_iload_n (pc' := 488) dL_law_487 rfl rfl ?_
  refine m_iconst (pc' := 489) (v := 1) dL_law_488 (by decide) rfl ?_
  refine m_iadd (pc' := 490) dL_law_489 rfl ?_
  rw [show ((nI (6 * k)) + 1) = (nI (6 * k + 1)) from nI_add (6 * k) 1]
  refine m_siald (pc' := 491) (j := 6 * k + 1) hS dL_law_490 rfl (by omega) hL31 rfl ?_
  refine m_callV (pc' := 494) (A := [.int (xs (6 * k + 1))]) (rest := [.int ((opRestore A (xs (6 * k + 1))).1)]) (b := 214) cl_L_law_60 dL_law_491 rfl rfl (Nat.le_of_ble_eq_true rfl) ⟨Nat.le_of_ble_eq_true rfl, Nat.le_of_ble_eq_true rfl⟩ (by decide) rfl rfl rfl rfl ?_
  refine p_restore eM (fun f f0 fM => ?_)
  show mM G (mLw nm) 494 [some (.long 0), some (.ref 0), some (.ref 214), some (.int (nI (6 * k)))] [.int ((opRestore A (xs (6 * k + 1))).1), .int ((opRestore A (xs (6 * k + 1))).1)] S1 f (221, 29311) Q
  have fC := CR_mf eC f0
  refine m_icmp_eq (tgt := 877) (pc' := 497) dL_law_494 (by decide) rfl (fun h494 => ?_) (fun h494 => absurd h494 (fun z => z rfl))
  exact hK f fC fM (O_restore hO)
set_option maxHeartbeats 4000000 in
set_option maxRecDepth 100000 in
theorem lw_c11 {A : AS} {k : Nat} (hS : SCR G L xs) (hL31 : L < 2 ^ 31) (hk6 : 6 * k + 6 ≤ L) (hC : CR d A) (hM : MM d A) (hO : OK A) (hK : ∀ d', CR d' ((opUndo A).2) → MM d' ((opUndo A).2) → OK ((opUndo A).2) → mM G (mLw nm) 877 [some (.long 0), some (.ref 0), some (.ref 214), some (.int (nI (6 * k)))] [] S1 d' (221, 29311) Q) : mM G (mLw nm) 499 [some (.long 0), some (.ref 0), some (.ref 214), some (.int (nI (6 * k)))] [] S1 d (221, 29311) Q := by
  refine m_aload_n (pc' := 500) dL_law_499 rfl rfl ?_
  refine m_callV (pc' := 503) (A := []) (rest := []) (b := 0) cl_L_law_61 dL_law_500 rfl rfl (Nat.le_of_ble_eq_true rfl) ⟨Nat.le_of_ble_eq_true rfl, Nat.le_of_ble_eq_true rfl⟩ (by decide) rfl rfl rfl rfl ?_
  refine k_undo hC hO (fun e e0 eC => ?_)
  show mM G (mLw nm) 503 [some (.long 0), some (.ref 0), some (.ref 214), some (.int (nI (6 * k)))] [.int ((opUndo A).1)] S1 e (221, 29311) Q
  have eM := MM_cf hM e0
  refine m_aload_n (pc' := 504) dL_law_503 rfl rfl ?_
  refine m_callV (pc' := 507) (A := []) (rest := [.int ((opUndo A).1)]) (b := 214) cl_L_law_65 dL_law_504 rfl rfl (Nat.le_of_ble_eq_true rfl) ⟨Nat.le_of_ble_eq_true rfl, Nat.le_of_ble_eq_true rfl⟩ (by decide) rfl rfl rfl rfl ?_
  refine p_undo eM (fun f f0 fM => ?_)
  show mM G (mLw nm) 507 [some (.long 0), some (.ref 0), some (.ref 214), some (.int (nI (6 * k)))] [.int ((opUndo A).1), .int ((opUndo A).1)] S1 f (221, 29311) Q
  have fC := CR_mf eC f0
  refine m_icmp_eq (tgt := 877) (pc' := 510) dL_law_507 (by decide) rfl (fun h507 => ?_) (fun h507 => absurd h507 (fun z => z rfl))
  exact hK f fC fM (O_undo hO)
set_option maxHeartbeats 4000000 in
set_option maxRecDepth 100000 in
theorem lw_c12 {A : AS} {k : Nat} (hS : SCR G L xs) (hL31 : L < 2 ^ 31) (hk6 : 6 * k + 6 ≤ L) (hC : CR d A) (hM : MM d A) (hO : OK A) (hK : ∀ d', CR d' ((opAppend A (xs (6 * k + 1))).2) → MM d' ((opAppend A (xs (6 * k + 1))).2) → OK ((opAppend A (xs (6 * k + 1))).2) → mM G (mLw nm) 877 [some (.long 0), some (.ref 0), some (.ref 214), some (.int (nI (6 * k)))] [] S1 d' (221, 29311) Q) : mM G (mLw nm) 512 [some (.long 0), some (.ref 0), some (.ref 214), some (.int (nI (6 * k)))] [] S1 d (221, 29311) Q := by
  refine m_aload_n (pc' := 513) dL_law_512 rfl rfl ?_
  refine m_xload_n (pc' := 514) dL_law_513 rfl rfl ?_
  refine m_iload_n (pc' := 515) dL_law_514 rfl rfl ?_
  refine m_iconst (pc' := 516) (v := 1) dL_law_515 (by decide) rfl ?_
  refine m_iadd (pc' := 517) dL_law_516 rfl ?_
  rw [show ((nI (6 * k)) + 1) = (nI (6 * k + 1)) from nI_add (6 * k) 1]
  refine m_siald (pc' := 518) (j := 6 * k + 1) hS dL_law_517 rfl (by omega) hL31 rfl ?_
  refine m_callV (pc' := 521) (A := [.int (xs (6 * k + 1))]) (rest := []) (b := 0) cl_L_law_66 dL_law_518 rfl rfl (Nat.le_of_ble_eq_true rfl) ⟨Nat.le_of_ble_eq_true rfl, Nat.le_of_ble_eq_true rfl⟩ (by decide) rfl rfl rfl rfl ?_
  refine k_append hC hO (fun e e0 eC => ?_)
  show mM G (mLw nm) 521 [some (.long 0), some (.ref 0), some (.ref 214), some (.int (nI (6 * k)))] [.int ((opAppend A (xs (6 * k + 1))).1)] S1 e (221, 29311) Q
  have eM := MM_cf hM e0
  refine m_aload_n (pc' := 522) dL_law_521 rfl rfl ?_
  refine m_xload_n (pc' := 523) dL_law_522 rfl rfl ?_
  refine m_iload_n (pc' := 524) dL_law_523 rfl rfl ?_
  refine m_iconst (pc' := 525) (v := 1) dL_law_524 (by decide) rfl ?_
  refine m_iadd (pc' := 526) dL_law_525 rfl ?_
  rw [show ((nI (6 * k)) + 1) = (nI (6 * k + 1)) from nI_add (6 * k) 1]
  refine m_siald (pc' := 527) (j := 6 * k + 1) hS dL_law_526 rfl (by omega) hL31 rfl ?_
  refine m_callV (pc' := 530) (A := [.int (xs (6 * k + 1))]) (rest := [.int ((opAppend A (xs (6 * k + 1))).1)]) (b := 214) cl_L_law_69 dL_law_527 rfl rfl (Nat.le_of_ble_eq_true rfl) ⟨Nat.le_of_ble_eq_true rfl, Nat.le_of_ble_eq_true rfl⟩ (by decide) rfl rfl rfl rfl ?_
  refine p_append eM hO (fun f f0 fM => ?_)
  show mM G (mLw nm) 530 [some (.long 0), some (.ref 0), some (.ref 214), some (.int (nI (6 * k)))] [.int ((opAppend A (xs (6 * k + 1))).1), .int ((opAppend A (xs (6 * k + 1))).1)] S1 f (221, 29311) Q
  have fC := CR_mf eC f0
  refine m_icmp_eq (tgt := 877) (pc' := 533) dL_law_530 (by decide) rfl (fun h530 => ?_) (fun h530 => absurd h530 (fun z => z rfl))
  exact hK f fC fM (O_append hO)
set_option maxHeartbeats 4000000 in
set_option maxRecDepth 100000 in
theorem lw_c13 {A : AS} {k : Nat} (hS : SCR G L xs) (hL31 : L < 2 ^ 31) (hk6 : 6 * k + 6 ≤ L) (hC : CR d A) (hM : MM d A) (hO : OK A) (hK : ∀ d', CR d' ((opClear A).2) → MM d' ((opClear A).2) → OK ((opClear A).2) → mM G (mLw nm) 877 [some (.long 0), some (.ref 0), some (.ref 214), some (.int (nI (6 * k)))] [] S1 d' (221, 29311) Q) : mM G (mLw nm) 535 [some (.long 0), some (.ref 0), some (.ref 214), some (.int (nI (6 * k)))] [] S1 d (221, 29311) Q := by
  refine m_aload_n (pc' := 536) dL_law_535 rfl rfl ?_
  refine m_callV (pc' := 539) (A := []) (rest := []) (b := 0) cl_L_law_70 dL_law_536 rfl rfl (Nat.le_of_ble_eq_true rfl) ⟨Nat.le_of_ble_eq_true rfl, Nat.le_of_ble_eq_true rfl⟩ (by decide) rfl rfl rfl rfl ?_
  refine k_clearText hC hO (fun e e0 eC => ?_)
  show mM G (mLw nm) 539 [some (.long 0), some (.ref 0), some (.ref 214), some (.int (nI (6 * k)))] [.int ((opClear A).1)] S1 e (221, 29311) Q
  have eM := MM_cf hM e0
  refine m_aload_n (pc' := 540) dL_law_539 rfl rfl ?_
  refine m_callV (pc' := 543) (A := []) (rest := [.int ((opClear A).1)]) (b := 214) cl_L_law_73 dL_law_540 rfl rfl (Nat.le_of_ble_eq_true rfl) ⟨Nat.le_of_ble_eq_true rfl, Nat.le_of_ble_eq_true rfl⟩ (by decide) rfl rfl rfl rfl ?_
  refine p_clearText eM (fun f f0 fM => ?_)
  show mM G (mLw nm) 543 [some (.long 0), some (.ref 0), some (.ref 214), some (.int (nI (6 * k)))] [.int ((opClear A).1), .int ((opClear A).1)] S1 f (221, 29311) Q
  have fC := CR_mf eC f0
  refine m_icmp_eq (tgt := 877) (pc' := 546) dL_law_543 (by decide) rfl (fun h543 => ?_) (fun h543 => absurd h543 (fun z => z rfl))
  exact hK f fC fM (O_clear hO)
set_option maxHeartbeats 4000000 in
set_option maxRecDepth 100000 in
theorem lw_c14 {A : AS} {k : Nat} (hS : SCR G L xs) (hL31 : L < 2 ^ 31) (hk6 : 6 * k + 6 ≤ L) (hC : CR d A) (hM : MM d A) (hO : OK A) (hK : ∀ d', CR d' ((opLoad A).2) → MM d' ((opLoad A).2) → OK ((opLoad A).2) → mM G (mLw nm) 877 [some (.long 0), some (.ref 0), some (.ref 214), some (.int (nI (6 * k)))] [] S1 d' (221, 29311) Q) : mM G (mLw nm) 548 [some (.long 0), some (.ref 0), some (.ref 214), some (.int (nI (6 * k)))] [] S1 d (221, 29311) Q := by
  refine m_aload_n (pc' := 549) dL_law_548 rfl rfl ?_
  refine m_callV (pc' := 552) (A := []) (rest := []) (b := 0) cl_L_law_74 dL_law_549 rfl rfl (Nat.le_of_ble_eq_true rfl) ⟨Nat.le_of_ble_eq_true rfl, Nat.le_of_ble_eq_true rfl⟩ (by decide) rfl rfl rfl rfl ?_
  refine k_load hC hO (fun e e0 eC => ?_)
  show mM G (mLw nm) 552 [some (.long 0), some (.ref 0), some (.ref 214), some (.int (nI (6 * k)))] [.int ((opLoad A).1)] S1 e (221, 29311) Q
  have eM := MM_cf hM e0
  refine m_aload_n (pc' := 553) dL_law_552 rfl rfl ?_
  refine m_callV (pc' := 556) (A := []) (rest := [.int ((opLoad A).1)]) (b := 214) cl_L_law_77 dL_law_553 rfl rfl (Nat.le_of_ble_eq_true rfl) ⟨Nat.le_of_ble_eq_true rfl, Nat.le_of_ble_eq_true rfl⟩ (by decide) rfl rfl rfl rfl ?_
  refine p_load eM hO (fun f f0 fM => ?_)
  show mM G (mLw nm) 556 [some (.long 0), some (.ref 0), some (.ref 214), some (.int (nI (6 * k)))] [.int ((opLoad A).1), .int ((opLoad A).1)] S1 f (221, 29311) Q
  have fC := CR_mf eC f0
  refine m_icmp_eq (tgt := 877) (pc' := 559) dL_law_556 (by decide) rfl (fun h556 => ?_) (fun h556 => absurd h556 (fun z => z rfl))
  exact hK f fC fM (O_load hO)
set_option maxHeartbeats 4000000 in
set_option maxRecDepth 100000 in
theorem lw_c15 {A : AS} {k : Nat} (hS : SCR G L xs) (hL31 : L < 2 ^ 31) (hk6 : 6 * k + 6 ≤ L) (hC : CR d A) (hM : MM d A) (hO : OK A) (hK : ∀ d', CR d' (A) → MM d' (A) → OK (A) → mM G (mLw nm) 877 [some (.long 0), some (.ref 0), some (.ref 214), some (.int (nI (6 * k)))] [] S1 d' (221, 29311) Q) : mM G (mLw nm) 561 [some (.long 0), some (.ref 0), some (.ref 214), some (.int (nI (6 * k)))] [] S1 d (221, 29311) Q := by
  refine m_aload_n (pc' := 562) dL_law_561 rfl rfl ?_
  refine m_xload_n (pc' := 563) dL_law_562 rfl rfl ?_
  refine m_iload_n (pc' := 564) dL_law_563 rfl rfl ?_
  refine m_iconst (pc' := 565) (v := 1) dL_law_564 (by decide) rfl ?_
  refine m_iadd (pc' := 566) dL_law_565 rfl ?_
  rw [show ((nI (6 * k)) + 1) = (nI (6 * k + 1)) from nI_add (6 * k) 1]
  refine m_siald (pc' := 567) (j := 6 * k + 1) hS dL_law_566 rfl (by omega) hL31 rfl ?_
  refine m_callV (pc' := 570) (A := [.int (xs (6 * k + 1))]) (rest := []) (b := 0) cl_L_law_78 dL_law_567 rfl rfl (Nat.le_of_ble_eq_true rfl) ⟨Nat.le_of_ble_eq_true rfl, Nat.le_of_ble_eq_true rfl⟩ (by decide) rfl rfl rfl rfl ?_
  refine k_count hC hO (fun e e0 eC => ?_)
  show mM G (mLw nm) 570 [some (.long 0), some (.ref 0), some (.ref 214), some (.int (nI (6 * k)))] [.int (vCount A (xs (6 * k + 1)))] S1 e (221, 29311) Q
  have eM := MM_cf hM e0
  refine m_aload_n (pc' := 571) dL_law_570 rfl rfl ?_
  refine m_xload_n (pc' := 572) dL_law_571 rfl rfl ?_
  refine m_iload_n (pc' := 573) dL_law_572 rfl rfl ?_
  refine m_iconst (pc' := 574) (v := 1) dL_law_573 (by decide) rfl ?_
  refine m_iadd (pc' := 575) dL_law_574 rfl ?_
  rw [show ((nI (6 * k)) + 1) = (nI (6 * k + 1)) from nI_add (6 * k) 1]
  refine m_siald (pc' := 576) (j := 6 * k + 1) hS dL_law_575 rfl (by omega) hL31 rfl ?_
  refine m_callV (pc' := 579) (A := [.int (xs (6 * k + 1))]) (rest := [.int (vCount A (xs (6 * k + 1)))]) (b := 214) cl_L_law_81 dL_law_576 rfl rfl (Nat.le_of_ble_eq_true rfl) ⟨Nat.le_of_ble_eq_true rfl, Nat.le_of_ble_eq_true rfl⟩ (by decide) rfl rfl rfl rfl ?_
  refine p_count eM hO (fun f f0 fM => ?_)
  show mM G (mLw nm) 579 [some (.long 0), some (.ref 0), some (.ref 214), some (.int (nI (6 * k)))] [.int (vCount A (xs (6 * k + 1))), .int (vCount A (xs (6 * k + 1)))] S1 f (221, 29311) Q
  have fC := CR_mf eC f0
  refine m_icmp_eq (tgt := 877) (pc' := 582) dL_law_579 (by decide) rfl (fun h579 => ?_) (fun h579 => absurd h579 (fun z => z rfl))
  exact hK f fC fM hO
set_option maxHeartbeats 4000000 in
set_option maxRecDepth 100000 in
theorem lw_c16 {A : AS} {k : Nat} (hS : SCR G L xs) (hL31 : L < 2 ^ 31) (hk6 : 6 * k + 6 ≤ L) (hC : CR d A) (hM : MM d A) (hO : OK A) (hK : ∀ d', CR d' (A) → MM d' (A) → OK (A) → mM G (mLw nm) 877 [some (.long 0), some (.ref 0), some (.ref 214), some (.int (nI (6 * k)))] [] S1 d' (221, 29311) Q) : mM G (mLw nm) 584 [some (.long 0), some (.ref 0), some (.ref 214), some (.int (nI (6 * k)))] [] S1 d (221, 29311) Q := by
  refine m_aload_n (pc' := 585) dL_law_584 rfl rfl ?_
  refine m_xload_n (pc' := 586) dL_law_585 rfl rfl ?_
  refine m_iload_n (pc' := 587) dL_law_586 rfl rfl ?_
  refine m_iconst (pc' := 588) (v := 1) dL_law_587 (by decide) rfl ?_
  refine m_iadd (pc' := 589) dL_law_588 rfl ?_
  rw [show ((nI (6 * k)) + 1) = (nI (6 * k + 1)) from nI_add (6 * k) 1]
  refine m_siald (pc' := 590) (j := 6 * k + 1) hS dL_law_589 rfl (by omega) hL31 rfl ?_
  refine m_xload_n (pc' := 591) dL_law_590 rfl rfl ?_
  refine m_iload_n (pc' := 592) dL_law_591 rfl rfl ?_
  refine m_iconst (pc' := 593) (v := 2) dL_law_592 (by decide) rfl ?_
  refine m_iadd (pc' := 594) dL_law_593 rfl ?_
  rw [show ((nI (6 * k)) + 2) = (nI (6 * k + 2)) from nI_add (6 * k) 2]
  refine m_siald (pc' := 595) (j := 6 * k + 2) hS dL_law_594 rfl (by omega) hL31 rfl ?_
  refine m_callV (pc' := 598) (A := [.int (xs (6 * k + 1)), .int (xs (6 * k + 2))]) (rest := []) (b := 0) cl_L_law_82 dL_law_595 rfl rfl (Nat.le_of_ble_eq_true rfl) ⟨Nat.le_of_ble_eq_true rfl, Nat.le_of_ble_eq_true rfl⟩ (by decide) rfl rfl rfl rfl ?_
  refine k_channel hC hO (fun e e0 eC => ?_)
  show mM G (mLw nm) 598 [some (.long 0), some (.ref 0), some (.ref 214), some (.int (nI (6 * k)))] [.int (vChannel A (xs (6 * k + 1)) (xs (6 * k + 2)))] S1 e (221, 29311) Q
  have eM := MM_cf hM e0
  refine m_aload_n (pc' := 599) dL_law_598 rfl rfl ?_
  refine m_xload_n (pc' := 600) dL_law_599 rfl rfl ?_
  refine m_iload_n (pc' := 601) dL_law_600 rfl rfl ?_
  refine m_iconst (pc' := 602) (v := 1) dL_law_601 (by decide) rfl ?_
  refine m_iadd (pc' := 603) dL_law_602 rfl ?_
  rw [show ((nI (6 * k)) + 1) = (nI (6 * k + 1)) from nI_add (6 * k) 1]
  refine m_siald (pc' := 604) (j := 6 * k + 1) hS dL_law_603 rfl (by omega) hL31 rfl ?_
  refine m_xload_n (pc' := 605) dL_law_604 rfl rfl ?_
  refine m_iload_n (pc' := 606) dL_law_605 rfl rfl ?_
  refine m_iconst (pc' := 607) (v := 2) dL_law_606 (by decide) rfl ?_
  refine m_iadd (pc' := 608) dL_law_607 rfl ?_
  rw [show ((nI (6 * k)) + 2) = (nI (6 * k + 2)) from nI_add (6 * k) 2]
  refine m_siald (pc' := 609) (j := 6 * k + 2) hS dL_law_608 rfl (by omega) hL31 rfl ?_
  refine m_callV (pc' := 612) (A := [.int (xs (6 * k + 1)), .int (xs (6 * k + 2))]) (rest := [.int (vChannel A (xs (6 * k + 1)) (xs (6 * k + 2)))]) (b := 214) cl_L_law_85 dL_law_609 rfl rfl (Nat.le_of_ble_eq_true rfl) ⟨Nat.le_of_ble_eq_true rfl, Nat.le_of_ble_eq_true rfl⟩ (by decide) rfl rfl rfl rfl ?_
  refine p_channel eM hO (fun f f0 fM => ?_)
  show mM G (mLw nm) 612 [some (.long 0), some (.ref 0), some (.ref 214), some (.int (nI (6 * k)))] [.int (vChannel A (xs (6 * k + 1)) (xs (6 * k + 2))), .int (vChannel A (xs (6 * k + 1)) (xs (6 * k + 2)))] S1 f (221, 29311) Q
  have fC := CR_mf eC f0
  refine m_icmp_eq (tgt := 877) (pc' := 615) dL_law_612 (by decide) rfl (fun h612 => ?_) (fun h612 => absurd h612 (fun z => z rfl))
  exact hK f fC fM hO
set_option maxHeartbeats 4000000 in
set_option maxRecDepth 100000 in
theorem lw_c17 {A : AS} {k : Nat} (hS : SCR G L xs) (hL31 : L < 2 ^ 31) (hk6 : 6 * k + 6 ≤ L) (hC : CR d A) (hM : MM d A) (hO : OK A) (hK : ∀ d', CR d' (A) → MM d' (A) → OK (A) → mM G (mLw nm) 877 [some (.long 0), some (.ref 0), some (.ref 214), some (.int (nI (6 * k)))] [] S1 d' (221, 29311) Q) : mM G (mLw nm) 617 [some (.long 0), some (.ref 0), some (.ref 214), some (.int (nI (6 * k)))] [] S1 d (221, 29311) Q := by
  refine m_aload_n (pc' := 618) dL_law_617 rfl rfl ?_
  refine m_xload_n (pc' := 619) dL_law_618 rfl rfl ?_
  refine m_iload_n (pc' := 620) dL_law_619 rfl rfl ?_
  refine m_iconst (pc' := 621) (v := 1) dL_law_620 (by decide) rfl ?_
  refine m_iadd (pc' := 622) dL_law_621 rfl ?_
  rw [show ((nI (6 * k)) + 1) = (nI (6 * k + 1)) from nI_add (6 * k) 1]
  refine m_siald (pc' := 623) (j := 6 * k + 1) hS dL_law_622 rfl (by omega) hL31 rfl ?_
  refine m_xload_n (pc' := 624) dL_law_623 rfl rfl ?_
  refine m_iload_n (pc' := 625) dL_law_624 rfl rfl ?_
  refine m_iconst (pc' := 626) (v := 2) dL_law_625 (by decide) rfl ?_
  refine m_iadd (pc' := 627) dL_law_626 rfl ?_
  rw [show ((nI (6 * k)) + 2) = (nI (6 * k + 2)) from nI_add (6 * k) 2]
  refine m_siald (pc' := 628) (j := 6 * k + 2) hS dL_law_627 rfl (by omega) hL31 rfl ?_
  refine m_callV (pc' := 631) (A := [.int (xs (6 * k + 1)), .int (xs (6 * k + 2))]) (rest := []) (b := 0) cl_L_law_86 dL_law_628 rfl rfl (Nat.le_of_ble_eq_true rfl) ⟨Nat.le_of_ble_eq_true rfl, Nat.le_of_ble_eq_true rfl⟩ (by decide) rfl rfl rfl rfl ?_
  refine k_entry hC hO (fun e e0 eC => ?_)
  show mM G (mLw nm) 631 [some (.long 0), some (.ref 0), some (.ref 214), some (.int (nI (6 * k)))] [.int (vEntry A (xs (6 * k + 1)) (xs (6 * k + 2)))] S1 e (221, 29311) Q
  have eM := MM_cf hM e0
  refine m_aload_n (pc' := 632) dL_law_631 rfl rfl ?_
  refine m_xload_n (pc' := 633) dL_law_632 rfl rfl ?_
  refine m_iload_n (pc' := 634) dL_law_633 rfl rfl ?_
  refine m_iconst (pc' := 635) (v := 1) dL_law_634 (by decide) rfl ?_
  refine m_iadd (pc' := 636) dL_law_635 rfl ?_
  rw [show ((nI (6 * k)) + 1) = (nI (6 * k + 1)) from nI_add (6 * k) 1]
  refine m_siald (pc' := 637) (j := 6 * k + 1) hS dL_law_636 rfl (by omega) hL31 rfl ?_
  refine m_xload_n (pc' := 638) dL_law_637 rfl rfl ?_
  refine m_iload_n (pc' := 639) dL_law_638 rfl rfl ?_
  refine m_iconst (pc' := 640) (v := 2) dL_law_639 (by decide) rfl ?_
  refine m_iadd (pc' := 641) dL_law_640 rfl ?_
  rw [show ((nI (6 * k)) + 2) = (nI (6 * k + 2)) from nI_add (6 * k) 2]
  refine m_siald (pc' := 642) (j := 6 * k + 2) hS dL_law_641 rfl (by omega) hL31 rfl ?_
  refine m_callV (pc' := 645) (A := [.int (xs (6 * k + 1)), .int (xs (6 * k + 2))]) (rest := [.int (vEntry A (xs (6 * k + 1)) (xs (6 * k + 2)))]) (b := 214) cl_L_law_89 dL_law_642 rfl rfl (Nat.le_of_ble_eq_true rfl) ⟨Nat.le_of_ble_eq_true rfl, Nat.le_of_ble_eq_true rfl⟩ (by decide) rfl rfl rfl rfl ?_
  refine p_entry eM hO (fun f f0 fM => ?_)
  show mM G (mLw nm) 645 [some (.long 0), some (.ref 0), some (.ref 214), some (.int (nI (6 * k)))] [.int (vEntry A (xs (6 * k + 1)) (xs (6 * k + 2))), .int (vEntry A (xs (6 * k + 1)) (xs (6 * k + 2)))] S1 f (221, 29311) Q
  have fC := CR_mf eC f0
  refine m_icmp_eq (tgt := 877) (pc' := 648) dL_law_645 (by decide) rfl (fun h645 => ?_) (fun h645 => absurd h645 (fun z => z rfl))
  exact hK f fC fM hO
set_option maxHeartbeats 4000000 in
set_option maxRecDepth 100000 in
theorem lw_c18 {A : AS} {k : Nat} (hS : SCR G L xs) (hL31 : L < 2 ^ 31) (hk6 : 6 * k + 6 ≤ L) (hC : CR d A) (hM : MM d A) (hO : OK A) (hK : ∀ d', CR d' (A) → MM d' (A) → OK (A) → mM G (mLw nm) 877 [some (.long 0), some (.ref 0), some (.ref 214), some (.int (nI (6 * k)))] [] S1 d' (221, 29311) Q) : mM G (mLw nm) 650 [some (.long 0), some (.ref 0), some (.ref 214), some (.int (nI (6 * k)))] [] S1 d (221, 29311) Q := by
  refine m_aload_n (pc' := 651) dL_law_650 rfl rfl ?_
  refine m_xload_n (pc' := 652) dL_law_651 rfl rfl ?_
  refine m_iload_n (pc' := 653) dL_law_652 rfl rfl ?_
  refine m_iconst (pc' := 654) (v := 1) dL_law_653 (by decide) rfl ?_
  refine m_iadd (pc' := 655) dL_law_654 rfl ?_
  rw [show ((nI (6 * k)) + 1) = (nI (6 * k + 1)) from nI_add (6 * k) 1]
  refine m_siald (pc' := 656) (j := 6 * k + 1) hS dL_law_655 rfl (by omega) hL31 rfl ?_
  refine m_xload_n (pc' := 657) dL_law_656 rfl rfl ?_
  refine m_iload_n (pc' := 658) dL_law_657 rfl rfl ?_
  refine m_iconst (pc' := 659) (v := 2) dL_law_658 (by decide) rfl ?_
  refine m_iadd (pc' := 660) dL_law_659 rfl ?_
  rw [show ((nI (6 * k)) + 2) = (nI (6 * k + 2)) from nI_add (6 * k) 2]
  refine m_siald (pc' := 661) (j := 6 * k + 2) hS dL_law_660 rfl (by omega) hL31 rfl ?_
  refine m_callV (pc' := 664) (A := [.int (xs (6 * k + 1)), .int (xs (6 * k + 2))]) (rest := []) (b := 0) cl_L_law_90 dL_law_661 rfl rfl (Nat.le_of_ble_eq_true rfl) ⟨Nat.le_of_ble_eq_true rfl, Nat.le_of_ble_eq_true rfl⟩ (by decide) rfl rfl rfl rfl ?_
  refine k_value hC hO (fun e e0 eC => ?_)
  show mM G (mLw nm) 664 [some (.long 0), some (.ref 0), some (.ref 214), some (.int (nI (6 * k)))] [.int (vValue A (xs (6 * k + 1)) (xs (6 * k + 2)))] S1 e (221, 29311) Q
  have eM := MM_cf hM e0
  refine m_aload_n (pc' := 665) dL_law_664 rfl rfl ?_
  refine m_xload_n (pc' := 666) dL_law_665 rfl rfl ?_
  refine m_iload_n (pc' := 667) dL_law_666 rfl rfl ?_
  refine m_iconst (pc' := 668) (v := 1) dL_law_667 (by decide) rfl ?_
  refine m_iadd (pc' := 669) dL_law_668 rfl ?_
  rw [show ((nI (6 * k)) + 1) = (nI (6 * k + 1)) from nI_add (6 * k) 1]
  refine m_siald (pc' := 670) (j := 6 * k + 1) hS dL_law_669 rfl (by omega) hL31 rfl ?_
  refine m_xload_n (pc' := 671) dL_law_670 rfl rfl ?_
  refine m_iload_n (pc' := 672) dL_law_671 rfl rfl ?_
  refine m_iconst (pc' := 673) (v := 2) dL_law_672 (by decide) rfl ?_
  refine m_iadd (pc' := 674) dL_law_673 rfl ?_
  rw [show ((nI (6 * k)) + 2) = (nI (6 * k + 2)) from nI_add (6 * k) 2]
  refine m_siald (pc' := 675) (j := 6 * k + 2) hS dL_law_674 rfl (by omega) hL31 rfl ?_
  refine m_callV (pc' := 678) (A := [.int (xs (6 * k + 1)), .int (xs (6 * k + 2))]) (rest := [.int (vValue A (xs (6 * k + 1)) (xs (6 * k + 2)))]) (b := 214) cl_L_law_93 dL_law_675 rfl rfl (Nat.le_of_ble_eq_true rfl) ⟨Nat.le_of_ble_eq_true rfl, Nat.le_of_ble_eq_true rfl⟩ (by decide) rfl rfl rfl rfl ?_
  refine p_value eM hO (fun f f0 fM => ?_)
  show mM G (mLw nm) 678 [some (.long 0), some (.ref 0), some (.ref 214), some (.int (nI (6 * k)))] [.int (vValue A (xs (6 * k + 1)) (xs (6 * k + 2))), .int (vValue A (xs (6 * k + 1)) (xs (6 * k + 2)))] S1 f (221, 29311) Q
  have fC := CR_mf eC f0
  refine m_icmp_eq (tgt := 877) (pc' := 681) dL_law_678 (by decide) rfl (fun h678 => ?_) (fun h678 => absurd h678 (fun z => z rfl))
  exact hK f fC fM hO
set_option maxHeartbeats 4000000 in
set_option maxRecDepth 100000 in
theorem lw_c19 {A : AS} {k : Nat} (hS : SCR G L xs) (hL31 : L < 2 ^ 31) (hk6 : 6 * k + 6 ≤ L) (hC : CR d A) (hM : MM d A) (hO : OK A) (hK : ∀ d', CR d' (A) → MM d' (A) → OK (A) → mM G (mLw nm) 877 [some (.long 0), some (.ref 0), some (.ref 214), some (.int (nI (6 * k)))] [] S1 d' (221, 29311) Q) : mM G (mLw nm) 683 [some (.long 0), some (.ref 0), some (.ref 214), some (.int (nI (6 * k)))] [] S1 d (221, 29311) Q := by
  refine m_aload_n (pc' := 684) dL_law_683 rfl rfl ?_
  refine m_xload_n (pc' := 685) dL_law_684 rfl rfl ?_
  refine m_iload_n (pc' := 686) dL_law_685 rfl rfl ?_
  refine m_iconst (pc' := 687) (v := 1) dL_law_686 (by decide) rfl ?_
  refine m_iadd (pc' := 688) dL_law_687 rfl ?_
  rw [show ((nI (6 * k)) + 1) = (nI (6 * k + 1)) from nI_add (6 * k) 1]
  refine m_siald (pc' := 689) (j := 6 * k + 1) hS dL_law_688 rfl (by omega) hL31 rfl ?_
  refine m_xload_n (pc' := 690) dL_law_689 rfl rfl ?_
  refine m_iload_n (pc' := 691) dL_law_690 rfl rfl ?_
  refine m_iconst (pc' := 692) (v := 2) dL_law_691 (by decide) rfl ?_
  refine m_iadd (pc' := 693) dL_law_692 rfl ?_
  rw [show ((nI (6 * k)) + 2) = (nI (6 * k + 2)) from nI_add (6 * k) 2]
  refine m_siald (pc' := 694) (j := 6 * k + 2) hS dL_law_693 rfl (by omega) hL31 rfl ?_
  refine m_callV (pc' := 697) (A := [.int (xs (6 * k + 1)), .int (xs (6 * k + 2))]) (rest := []) (b := 0) cl_L_law_94 dL_law_694 rfl rfl (Nat.le_of_ble_eq_true rfl) ⟨Nat.le_of_ble_eq_true rfl, Nat.le_of_ble_eq_true rfl⟩ (by decide) rfl rfl rfl rfl ?_
  refine k_sample hC hO (fun e e0 eC => ?_)
  show mM G (mLw nm) 697 [some (.long 0), some (.ref 0), some (.ref 214), some (.int (nI (6 * k)))] [.int (vSample A (xs (6 * k + 1)) (xs (6 * k + 2)))] S1 e (221, 29311) Q
  have eM := MM_cf hM e0
  refine m_aload_n (pc' := 698) dL_law_697 rfl rfl ?_
  refine m_xload_n (pc' := 699) dL_law_698 rfl rfl ?_
  refine m_iload_n (pc' := 700) dL_law_699 rfl rfl ?_
  refine m_iconst (pc' := 701) (v := 1) dL_law_700 (by decide) rfl ?_
  refine m_iadd (pc' := 702) dL_law_701 rfl ?_
  rw [show ((nI (6 * k)) + 1) = (nI (6 * k + 1)) from nI_add (6 * k) 1]
  refine m_siald (pc' := 703) (j := 6 * k + 1) hS dL_law_702 rfl (by omega) hL31 rfl ?_
  refine m_xload_n (pc' := 704) dL_law_703 rfl rfl ?_
  refine m_iload_n (pc' := 705) dL_law_704 rfl rfl ?_
  refine m_iconst (pc' := 706) (v := 2) dL_law_705 (by decide) rfl ?_
  refine m_iadd (pc' := 707) dL_law_706 rfl ?_
  rw [show ((nI (6 * k)) + 2) = (nI (6 * k + 2)) from nI_add (6 * k) 2]
  refine m_siald (pc' := 708) (j := 6 * k + 2) hS dL_law_707 rfl (by omega) hL31 rfl ?_
  refine m_callV (pc' := 711) (A := [.int (xs (6 * k + 1)), .int (xs (6 * k + 2))]) (rest := [.int (vSample A (xs (6 * k + 1)) (xs (6 * k + 2)))]) (b := 214) cl_L_law_97 dL_law_708 rfl rfl (Nat.le_of_ble_eq_true rfl) ⟨Nat.le_of_ble_eq_true rfl, Nat.le_of_ble_eq_true rfl⟩ (by decide) rfl rfl rfl rfl ?_
  refine p_sample eM hO (fun f f0 fM => ?_)
  show mM G (mLw nm) 711 [some (.long 0), some (.ref 0), some (.ref 214), some (.int (nI (6 * k)))] [.int (vSample A (xs (6 * k + 1)) (xs (6 * k + 2))), .int (vSample A (xs (6 * k + 1)) (xs (6 * k + 2)))] S1 f (221, 29311) Q
  have fC := CR_mf eC f0
  refine m_icmp_eq (tgt := 877) (pc' := 714) dL_law_711 (by decide) rfl (fun h711 => ?_) (fun h711 => absurd h711 (fun z => z rfl))
  exact hK f fC fM hO
set_option maxHeartbeats 4000000 in
set_option maxRecDepth 100000 in
theorem lw_c20 {A : AS} {k : Nat} (hS : SCR G L xs) (hL31 : L < 2 ^ 31) (hk6 : 6 * k + 6 ≤ L) (hC : CR d A) (hM : MM d A) (hO : OK A) (hK : ∀ d', CR d' (A) → MM d' (A) → OK (A) → mM G (mLw nm) 877 [some (.long 0), some (.ref 0), some (.ref 214), some (.int (nI (6 * k)))] [] S1 d' (221, 29311) Q) : mM G (mLw nm) 716 [some (.long 0), some (.ref 0), some (.ref 214), some (.int (nI (6 * k)))] [] S1 d (221, 29311) Q := by
  refine m_aload_n (pc' := 717) dL_law_716 rfl rfl ?_
  refine m_xload_n (pc' := 718) dL_law_717 rfl rfl ?_
  refine m_iload_n (pc' := 719) dL_law_718 rfl rfl ?_
  refine m_iconst (pc' := 720) (v := 1) dL_law_719 (by decide) rfl ?_
  refine m_iadd (pc' := 721) dL_law_720 rfl ?_
  rw [show ((nI (6 * k)) + 1) = (nI (6 * k + 1)) from nI_add (6 * k) 1]
  refine m_siald (pc' := 722) (j := 6 * k + 1) hS dL_law_721 rfl (by omega) hL31 rfl ?_
  refine m_callV (pc' := 725) (A := [.int (xs (6 * k + 1))]) (rest := []) (b := 0) cl_L_law_98 dL_law_722 rfl rfl (Nat.le_of_ble_eq_true rfl) ⟨Nat.le_of_ble_eq_true rfl, Nat.le_of_ble_eq_true rfl⟩ (by decide) rfl rfl rfl rfl ?_
  refine k_account hC hO (fun e e0 eC => ?_)
  show mM G (mLw nm) 725 [some (.long 0), some (.ref 0), some (.ref 214), some (.int (nI (6 * k)))] [.int (vAccount A (xs (6 * k + 1)))] S1 e (221, 29311) Q
  have eM := MM_cf hM e0
  refine m_aload_n (pc' := 726) dL_law_725 rfl rfl ?_
  refine m_xload_n (pc' := 727) dL_law_726 rfl rfl ?_
  refine m_iload_n (pc' := 728) dL_law_727 rfl rfl ?_
  refine m_iconst (pc' := 729) (v := 1) dL_law_728 (by decide) rfl ?_
  refine m_iadd (pc' := 730) dL_law_729 rfl ?_
  rw [show ((nI (6 * k)) + 1) = (nI (6 * k + 1)) from nI_add (6 * k) 1]
  refine m_siald (pc' := 731) (j := 6 * k + 1) hS dL_law_730 rfl (by omega) hL31 rfl ?_
  refine m_callV (pc' := 734) (A := [.int (xs (6 * k + 1))]) (rest := [.int (vAccount A (xs (6 * k + 1)))]) (b := 214) cl_L_law_101 dL_law_731 rfl rfl (Nat.le_of_ble_eq_true rfl) ⟨Nat.le_of_ble_eq_true rfl, Nat.le_of_ble_eq_true rfl⟩ (by decide) rfl rfl rfl rfl ?_
  refine p_account eM (fun f f0 fM => ?_)
  show mM G (mLw nm) 734 [some (.long 0), some (.ref 0), some (.ref 214), some (.int (nI (6 * k)))] [.int (vAccount A (xs (6 * k + 1))), .int (vAccount A (xs (6 * k + 1)))] S1 f (221, 29311) Q
  have fC := CR_mf eC f0
  refine m_icmp_eq (tgt := 877) (pc' := 737) dL_law_734 (by decide) rfl (fun h734 => ?_) (fun h734 => absurd h734 (fun z => z rfl))
  exact hK f fC fM hO
set_option maxHeartbeats 4000000 in
set_option maxRecDepth 100000 in
theorem lw_c21 {A : AS} {k : Nat} (hS : SCR G L xs) (hL31 : L < 2 ^ 31) (hk6 : 6 * k + 6 ≤ L) (hC : CR d A) (hM : MM d A) (hO : OK A) (hK : ∀ d', CR d' (A) → MM d' (A) → OK (A) → mM G (mLw nm) 877 [some (.long 0), some (.ref 0), some (.ref 214), some (.int (nI (6 * k)))] [] S1 d' (221, 29311) Q) : mM G (mLw nm) 739 [some (.long 0), some (.ref 0), some (.ref 214), some (.int (nI (6 * k)))] [] S1 d (221, 29311) Q := by
  refine m_aload_n (pc' := 740) dL_law_739 rfl rfl ?_
  refine m_xload_n (pc' := 741) dL_law_740 rfl rfl ?_
  refine m_iload_n (pc' := 742) dL_law_741 rfl rfl ?_
  refine m_iconst (pc' := 743) (v := 1) dL_law_742 (by decide) rfl ?_
  refine m_iadd (pc' := 744) dL_law_743 rfl ?_
  rw [show ((nI (6 * k)) + 1) = (nI (6 * k + 1)) from nI_add (6 * k) 1]
  refine m_siald (pc' := 745) (j := 6 * k + 1) hS dL_law_744 rfl (by omega) hL31 rfl ?_
  refine m_callV (pc' := 748) (A := [.int (xs (6 * k + 1))]) (rest := []) (b := 0) cl_L_law_102 dL_law_745 rfl rfl (Nat.le_of_ble_eq_true rfl) ⟨Nat.le_of_ble_eq_true rfl, Nat.le_of_ble_eq_true rfl⟩ (by decide) rfl rfl rfl rfl ?_
  refine k_held hC (fun e e0 eC => ?_)
  show mM G (mLw nm) 748 [some (.long 0), some (.ref 0), some (.ref 214), some (.int (nI (6 * k)))] [.int (vHeld A (xs (6 * k + 1)))] S1 e (221, 29311) Q
  have eM := MM_cf hM e0
  refine m_aload_n (pc' := 749) dL_law_748 rfl rfl ?_
  refine m_xload_n (pc' := 750) dL_law_749 rfl rfl ?_
  refine m_iload_n (pc' := 751) dL_law_750 rfl rfl ?_
  refine m_iconst (pc' := 752) (v := 1) dL_law_751 (by decide) rfl ?_
  refine m_iadd (pc' := 753) dL_law_752 rfl ?_
  rw [show ((nI (6 * k)) + 1) = (nI (6 * k + 1)) from nI_add (6 * k) 1]
  refine m_siald (pc' := 754) (j := 6 * k + 1) hS dL_law_753 rfl (by omega) hL31 rfl ?_
  refine m_callV (pc' := 757) (A := [.int (xs (6 * k + 1))]) (rest := [.int (vHeld A (xs (6 * k + 1)))]) (b := 214) cl_L_law_105 dL_law_754 rfl rfl (Nat.le_of_ble_eq_true rfl) ⟨Nat.le_of_ble_eq_true rfl, Nat.le_of_ble_eq_true rfl⟩ (by decide) rfl rfl rfl rfl ?_
  refine p_held eM (fun f f0 fM => ?_)
  show mM G (mLw nm) 757 [some (.long 0), some (.ref 0), some (.ref 214), some (.int (nI (6 * k)))] [.int (vHeld A (xs (6 * k + 1))), .int (vHeld A (xs (6 * k + 1)))] S1 f (221, 29311) Q
  have fC := CR_mf eC f0
  refine m_icmp_eq (tgt := 877) (pc' := 760) dL_law_757 (by decide) rfl (fun h757 => ?_) (fun h757 => absurd h757 (fun z => z rfl))
  exact hK f fC fM hO
set_option maxHeartbeats 4000000 in
set_option maxRecDepth 100000 in
theorem lw_c22 {A : AS} {k : Nat} (hS : SCR G L xs) (hL31 : L < 2 ^ 31) (hk6 : 6 * k + 6 ≤ L) (hC : CR d A) (hM : MM d A) (hO : OK A) (hK : ∀ d', CR d' (A) → MM d' (A) → OK (A) → mM G (mLw nm) 877 [some (.long 0), some (.ref 0), some (.ref 214), some (.int (nI (6 * k)))] [] S1 d' (221, 29311) Q) : mM G (mLw nm) 762 [some (.long 0), some (.ref 0), some (.ref 214), some (.int (nI (6 * k)))] [] S1 d (221, 29311) Q := by
  refine m_aload_n (pc' := 763) dL_law_762 rfl rfl ?_
  refine m_xload_n (pc' := 764) dL_law_763 rfl rfl ?_
  refine m_iload_n (pc' := 765) dL_law_764 rfl rfl ?_
  refine m_iconst (pc' := 766) (v := 1) dL_law_765 (by decide) rfl ?_
  refine m_iadd (pc' := 767) dL_law_766 rfl ?_
  rw [show ((nI (6 * k)) + 1) = (nI (6 * k + 1)) from nI_add (6 * k) 1]
  refine m_siald (pc' := 768) (j := 6 * k + 1) hS dL_law_767 rfl (by omega) hL31 rfl ?_
  refine m_xload_n (pc' := 769) dL_law_768 rfl rfl ?_
  refine m_iload_n (pc' := 770) dL_law_769 rfl rfl ?_
  refine m_iconst (pc' := 771) (v := 2) dL_law_770 (by decide) rfl ?_
  refine m_iadd (pc' := 772) dL_law_771 rfl ?_
  rw [show ((nI (6 * k)) + 2) = (nI (6 * k + 2)) from nI_add (6 * k) 2]
  refine m_siald (pc' := 773) (j := 6 * k + 2) hS dL_law_772 rfl (by omega) hL31 rfl ?_
  refine m_callV (pc' := 776) (A := [.int (xs (6 * k + 1)), .int (xs (6 * k + 2))]) (rest := []) (b := 0) cl_L_law_106 dL_law_773 rfl rfl (Nat.le_of_ble_eq_true rfl) ⟨Nat.le_of_ble_eq_true rfl, Nat.le_of_ble_eq_true rfl⟩ (by decide) rfl rfl rfl rfl ?_
  refine k_would hC hO (fun e e0 eC => ?_)
  show mM G (mLw nm) 776 [some (.long 0), some (.ref 0), some (.ref 214), some (.int (nI (6 * k)))] [.int (vWould A (xs (6 * k + 1)) (xs (6 * k + 2)))] S1 e (221, 29311) Q
  have eM := MM_cf hM e0
  refine m_aload_n (pc' := 777) dL_law_776 rfl rfl ?_
  refine m_xload_n (pc' := 778) dL_law_777 rfl rfl ?_
  refine m_iload_n (pc' := 779) dL_law_778 rfl rfl ?_
  refine m_iconst (pc' := 780) (v := 1) dL_law_779 (by decide) rfl ?_
  refine m_iadd (pc' := 781) dL_law_780 rfl ?_
  rw [show ((nI (6 * k)) + 1) = (nI (6 * k + 1)) from nI_add (6 * k) 1]
  refine m_siald (pc' := 782) (j := 6 * k + 1) hS dL_law_781 rfl (by omega) hL31 rfl ?_
  refine m_xload_n (pc' := 783) dL_law_782 rfl rfl ?_
  refine m_iload_n (pc' := 784) dL_law_783 rfl rfl ?_
  refine m_iconst (pc' := 785) (v := 2) dL_law_784 (by decide) rfl ?_
  refine m_iadd (pc' := 786) dL_law_785 rfl ?_
  rw [show ((nI (6 * k)) + 2) = (nI (6 * k + 2)) from nI_add (6 * k) 2]
  refine m_siald (pc' := 787) (j := 6 * k + 2) hS dL_law_786 rfl (by omega) hL31 rfl ?_
  refine m_callV (pc' := 790) (A := [.int (xs (6 * k + 1)), .int (xs (6 * k + 2))]) (rest := [.int (vWould A (xs (6 * k + 1)) (xs (6 * k + 2)))]) (b := 214) cl_L_law_109 dL_law_787 rfl rfl (Nat.le_of_ble_eq_true rfl) ⟨Nat.le_of_ble_eq_true rfl, Nat.le_of_ble_eq_true rfl⟩ (by decide) rfl rfl rfl rfl ?_
  refine p_would eM hO (fun f f0 fM => ?_)
  show mM G (mLw nm) 790 [some (.long 0), some (.ref 0), some (.ref 214), some (.int (nI (6 * k)))] [.int (vWould A (xs (6 * k + 1)) (xs (6 * k + 2))), .int (vWould A (xs (6 * k + 1)) (xs (6 * k + 2)))] S1 f (221, 29311) Q
  have fC := CR_mf eC f0
  refine m_icmp_eq (tgt := 877) (pc' := 793) dL_law_790 (by decide) rfl (fun h790 => ?_) (fun h790 => absurd h790 (fun z => z rfl))
  exact hK f fC fM hO
set_option maxHeartbeats 4000000 in
set_option maxRecDepth 100000 in
theorem lw_c23 {A : AS} {k : Nat} (hS : SCR G L xs) (hL31 : L < 2 ^ 31) (hk6 : 6 * k + 6 ≤ L) (hC : CR d A) (hM : MM d A) (hO : OK A) (hK : ∀ d', CR d' (A) → MM d' (A) → OK (A) → mM G (mLw nm) 877 [some (.long 0), some (.ref 0), some (.ref 214), some (.int (nI (6 * k)))] [] S1 d' (221, 29311) Q) : mM G (mLw nm) 795 [some (.long 0), some (.ref 0), some (.ref 214), some (.int (nI (6 * k)))] [] S1 d (221, 29311) Q := by
  refine m_aload_n (pc' := 796) dL_law_795 rfl rfl ?_
  refine m_xload_n (pc' := 797) dL_law_796 rfl rfl ?_
  refine m_iload_n (pc' := 798) dL_law_797 rfl rfl ?_
  refine m_iconst (pc' := 799) (v := 1) dL_law_798 (by decide) rfl ?_
  refine m_iadd (pc' := 800) dL_law_799 rfl ?_
  rw [show ((nI (6 * k)) + 1) = (nI (6 * k + 1)) from nI_add (6 * k) 1]
  refine m_siald (pc' := 801) (j := 6 * k + 1) hS dL_law_800 rfl (by omega) hL31 rfl ?_
  refine m_callV (pc' := 804) (A := [.int (xs (6 * k + 1))]) (rest := []) (b := 0) cl_L_law_110 dL_law_801 rfl rfl (Nat.le_of_ble_eq_true rfl) ⟨Nat.le_of_ble_eq_true rfl, Nat.le_of_ble_eq_true rfl⟩ (by decide) rfl rfl rfl rfl ?_
  refine k_why hC hO (fun e e0 eC => ?_)
  show mM G (mLw nm) 804 [some (.long 0), some (.ref 0), some (.ref 214), some (.int (nI (6 * k)))] [.int (vWhy A (xs (6 * k + 1)))] S1 e (221, 29311) Q
  have eM := MM_cf hM e0
  refine m_aload_n (pc' := 805) dL_law_804 rfl rfl ?_
  refine m_xload_n (pc' := 806) dL_law_805 rfl rfl ?_
  refine m_iload_n (pc' := 807) dL_law_806 rfl rfl ?_
  refine m_iconst (pc' := 808) (v := 1) dL_law_807 (by decide) rfl ?_
  refine m_iadd (pc' := 809) dL_law_808 rfl ?_
  rw [show ((nI (6 * k)) + 1) = (nI (6 * k + 1)) from nI_add (6 * k) 1]
  refine m_siald (pc' := 810) (j := 6 * k + 1) hS dL_law_809 rfl (by omega) hL31 rfl ?_
  refine m_callV (pc' := 813) (A := [.int (xs (6 * k + 1))]) (rest := [.int (vWhy A (xs (6 * k + 1)))]) (b := 214) cl_L_law_113 dL_law_810 rfl rfl (Nat.le_of_ble_eq_true rfl) ⟨Nat.le_of_ble_eq_true rfl, Nat.le_of_ble_eq_true rfl⟩ (by decide) rfl rfl rfl rfl ?_
  refine p_why eM hO (fun f f0 fM => ?_)
  show mM G (mLw nm) 813 [some (.long 0), some (.ref 0), some (.ref 214), some (.int (nI (6 * k)))] [.int (vWhy A (xs (6 * k + 1))), .int (vWhy A (xs (6 * k + 1)))] S1 f (221, 29311) Q
  have fC := CR_mf eC f0
  refine m_icmp_eq (tgt := 877) (pc' := 816) dL_law_813 (by decide) rfl (fun h813 => ?_) (fun h813 => absurd h813 (fun z => z rfl))
  exact hK f fC fM hO
set_option maxHeartbeats 4000000 in
set_option maxRecDepth 100000 in
theorem lw_c24 {A : AS} {k : Nat} (hS : SCR G L xs) (hL31 : L < 2 ^ 31) (hk6 : 6 * k + 6 ≤ L) (hC : CR d A) (hM : MM d A) (hO : OK A) (hK : ∀ d', CR d' (A) → MM d' (A) → OK (A) → mM G (mLw nm) 877 [some (.long 0), some (.ref 0), some (.ref 214), some (.int (nI (6 * k)))] [] S1 d' (221, 29311) Q) : mM G (mLw nm) 818 [some (.long 0), some (.ref 0), some (.ref 214), some (.int (nI (6 * k)))] [] S1 d (221, 29311) Q := by
  refine m_aload_n (pc' := 819) dL_law_818 rfl rfl ?_
  refine m_xload_n (pc' := 820) dL_law_819 rfl rfl ?_
  refine m_iload_n (pc' := 821) dL_law_820 rfl rfl ?_
  refine m_iconst (pc' := 822) (v := 1) dL_law_821 (by decide) rfl ?_
  refine m_iadd (pc' := 823) dL_law_822 rfl ?_
  rw [show ((nI (6 * k)) + 1) = (nI (6 * k + 1)) from nI_add (6 * k) 1]
  refine m_siald (pc' := 824) (j := 6 * k + 1) hS dL_law_823 rfl (by omega) hL31 rfl ?_
  refine m_xload_n (pc' := 825) dL_law_824 rfl rfl ?_
  refine m_iload_n (pc' := 826) dL_law_825 rfl rfl ?_
  refine m_iconst (pc' := 827) (v := 2) dL_law_826 (by decide) rfl ?_
  refine m_iadd (pc' := 828) dL_law_827 rfl ?_
  rw [show ((nI (6 * k)) + 2) = (nI (6 * k + 2)) from nI_add (6 * k) 2]
  refine m_siald (pc' := 829) (j := 6 * k + 2) hS dL_law_828 rfl (by omega) hL31 rfl ?_
  refine m_callV (pc' := 832) (A := [.int (xs (6 * k + 1)), .int (xs (6 * k + 2))]) (rest := []) (b := 0) cl_L_law_114 dL_law_829 rfl rfl (Nat.le_of_ble_eq_true rfl) ⟨Nat.le_of_ble_eq_true rfl, Nat.le_of_ble_eq_true rfl⟩ (by decide) rfl rfl rfl rfl ?_
  refine k_settleFor hC hO (fun e e0 eC => ?_)
  show mM G (mLw nm) 832 [some (.long 0), some (.ref 0), some (.ref 214), some (.int (nI (6 * k)))] [.int (vSettle A (xs (6 * k + 1)) (xs (6 * k + 2)))] S1 e (221, 29311) Q
  have eM := MM_cf hM e0
  refine m_aload_n (pc' := 833) dL_law_832 rfl rfl ?_
  refine m_xload_n (pc' := 834) dL_law_833 rfl rfl ?_
  refine m_iload_n (pc' := 835) dL_law_834 rfl rfl ?_
  refine m_iconst (pc' := 836) (v := 1) dL_law_835 (by decide) rfl ?_
  refine m_iadd (pc' := 837) dL_law_836 rfl ?_
  rw [show ((nI (6 * k)) + 1) = (nI (6 * k + 1)) from nI_add (6 * k) 1]
  refine m_siald (pc' := 838) (j := 6 * k + 1) hS dL_law_837 rfl (by omega) hL31 rfl ?_
  refine m_xload_n (pc' := 839) dL_law_838 rfl rfl ?_
  refine m_iload_n (pc' := 840) dL_law_839 rfl rfl ?_
  refine m_iconst (pc' := 841) (v := 2) dL_law_840 (by decide) rfl ?_
  refine m_iadd (pc' := 842) dL_law_841 rfl ?_
  rw [show ((nI (6 * k)) + 2) = (nI (6 * k + 2)) from nI_add (6 * k) 2]
  refine m_siald (pc' := 843) (j := 6 * k + 2) hS dL_law_842 rfl (by omega) hL31 rfl ?_
  refine m_callV (pc' := 846) (A := [.int (xs (6 * k + 1)), .int (xs (6 * k + 2))]) (rest := [.int (vSettle A (xs (6 * k + 1)) (xs (6 * k + 2)))]) (b := 214) cl_L_law_117 dL_law_843 rfl rfl (Nat.le_of_ble_eq_true rfl) ⟨Nat.le_of_ble_eq_true rfl, Nat.le_of_ble_eq_true rfl⟩ (by decide) rfl rfl rfl rfl ?_
  refine p_settleFor eM hO (fun f f0 fM => ?_)
  show mM G (mLw nm) 846 [some (.long 0), some (.ref 0), some (.ref 214), some (.int (nI (6 * k)))] [.int (vSettle A (xs (6 * k + 1)) (xs (6 * k + 2))), .int (vSettle A (xs (6 * k + 1)) (xs (6 * k + 2)))] S1 f (221, 29311) Q
  have fC := CR_mf eC f0
  refine m_icmp_eq (tgt := 877) (pc' := 849) dL_law_846 (by decide) rfl (fun h846 => ?_) (fun h846 => absurd h846 (fun z => z rfl))
  exact hK f fC fM hO
set_option maxHeartbeats 4000000 in
set_option maxRecDepth 100000 in
theorem lw_c25 {A : AS} {k : Nat} (hS : SCR G L xs) (hL31 : L < 2 ^ 31) (hk6 : 6 * k + 6 ≤ L) (hC : CR d A) (hM : MM d A) (hO : OK A) (hK : ∀ d', CR d' (A) → MM d' (A) → OK (A) → mM G (mLw nm) 877 [some (.long 0), some (.ref 0), some (.ref 214), some (.int (nI (6 * k)))] [] S1 d' (221, 29311) Q) : mM G (mLw nm) 851 [some (.long 0), some (.ref 0), some (.ref 214), some (.int (nI (6 * k)))] [] S1 d (221, 29311) Q := by
  refine m_aload_n (pc' := 852) dL_law_851 rfl rfl ?_
  refine m_callV (pc' := 855) (A := []) (rest := []) (b := 0) cl_L_law_118 dL_law_852 rfl rfl (Nat.le_of_ble_eq_true rfl) ⟨Nat.le_of_ble_eq_true rfl, Nat.le_of_ble_eq_true rfl⟩ (by decide) rfl rfl rfl rfl ?_
  refine k_bestRule hC hO (fun e e0 eC => ?_)
  show mM G (mLw nm) 855 [some (.long 0), some (.ref 0), some (.ref 214), some (.int (nI (6 * k)))] [.int (vBest A)] S1 e (221, 29311) Q
  have eM := MM_cf hM e0
  refine m_aload_n (pc' := 856) dL_law_855 rfl rfl ?_
  refine m_callV (pc' := 859) (A := []) (rest := [.int (vBest A)]) (b := 214) cl_L_law_121 dL_law_856 rfl rfl (Nat.le_of_ble_eq_true rfl) ⟨Nat.le_of_ble_eq_true rfl, Nat.le_of_ble_eq_true rfl⟩ (by decide) rfl rfl rfl rfl ?_
  refine p_bestRule eM hO (fun f f0 fM => ?_)
  show mM G (mLw nm) 859 [some (.long 0), some (.ref 0), some (.ref 214), some (.int (nI (6 * k)))] [.int (vBest A), .int (vBest A)] S1 f (221, 29311) Q
  have fC := CR_mf eC f0
  refine m_icmp_eq (tgt := 877) (pc' := 862) dL_law_859 (by decide) rfl (fun h859 => ?_) (fun h859 => absurd h859 (fun z => z rfl))
  exact hK f fC fM hO
set_option maxHeartbeats 4000000 in
set_option maxRecDepth 100000 in
theorem lw_c26 {A : AS} {k : Nat} (hS : SCR G L xs) (hL31 : L < 2 ^ 31) (hk6 : 6 * k + 6 ≤ L) (hC : CR d A) (hM : MM d A) (hO : OK A) (hK : ∀ d', CR d' (A) → MM d' (A) → OK (A) → mM G (mLw nm) 877 [some (.long 0), some (.ref 0), some (.ref 214), some (.int (nI (6 * k)))] [] S1 d' (221, 29311) Q) : mM G (mLw nm) 864 [some (.long 0), some (.ref 0), some (.ref 214), some (.int (nI (6 * k)))] [] S1 d (221, 29311) Q := by
  refine m_aload_n (pc' := 865) dL_law_864 rfl rfl ?_
  refine m_callV (pc' := 868) (A := []) (rest := []) (b := 0) cl_L_law_122 dL_law_865 rfl rfl (Nat.le_of_ble_eq_true rfl) ⟨Nat.le_of_ble_eq_true rfl, Nat.le_of_ble_eq_true rfl⟩ (by decide) rfl rfl rfl rfl ?_
  refine k_groundsNeeded hC hO (fun e e0 eC => ?_)
  show mM G (mLw nm) 868 [some (.long 0), some (.ref 0), some (.ref 214), some (.int (nI (6 * k)))] [.int (vGrounds A)] S1 e (221, 29311) Q
  have eM := MM_cf hM e0
  refine m_aload_n (pc' := 869) dL_law_868 rfl rfl ?_
  refine m_callV (pc' := 872) (A := []) (rest := [.int (vGrounds A)]) (b := 214) cl_L_law_125 dL_law_869 rfl rfl (Nat.le_of_ble_eq_true rfl) ⟨Nat.le_of_ble_eq_true rfl, Nat.le_of_ble_eq_true rfl⟩ (by decide) rfl rfl rfl rfl ?_
  refine p_groundsNeeded eM hO (fun f f0 fM => ?_)
  show mM G (mLw nm) 872 [some (.long 0), some (.ref 0), some (.ref 214), some (.int (nI (6 * k)))] [.int (vGrounds A), .int (vGrounds A)] S1 f (221, 29311) Q
  have fC := CR_mf eC f0
  refine m_icmp_eq (tgt := 877) (pc' := 875) dL_law_872 (by decide) rfl (fun h872 => ?_) (fun h872 => absurd h872 (fun z => z rfl))
  exact hK f fC fM hO
set_option maxHeartbeats 4000000 in
set_option maxRecDepth 100000 in
theorem lw_loop (hS : SCR G L xs) (hL3 : L ≤ 3072) (hQ : ∀ v d', v = some (.int 1) → Q v S1 d') : ∀ (n0 : Nat) (k : Nat) (A : AS) (d1 : Dt) (_ : L ≤ 6 * (k + n0) + 5) (_ : 6 * k ≤ L) (_ : CR d1 A) (_ : MM d1 A) (_ : OK A), mM G (mLw nm) 18 [some (.long 0), some (.ref 0), some (.ref 214), some (.int (nI (6 * k)))] [] S1 d1 (221, 29311) Q := by
  have hL31 : L < 2 ^ 31 := by omega
  intro n0
  induction n0 with
  | zero =>
    intro k A d1 hk hkL hC hM hO
    refine m_iload_n (pc' := 19) dL_law_18 rfl rfl ?_
    refine m_xload_n (pc' := 20) dL_law_19 rfl rfl ?_
    refine m_salen (pc' := 21) (v := nI L) hS dL_law_20 rfl rfl ?_
    refine m_bipush (pc' := 23) (v := 6) dL_law_21 (by decide) rfl ?_
    refine m_isub (pc' := 24) dL_law_23 rfl ?_
    refine m_icmp_gt (tgt := 883) (pc' := 27) dL_law_24 (by decide) rfl (fun h24 => ?_) (fun h24 => (h24 ((lw_gt hL3 hkL).mpr (by omega))).elim)
    refine m_iconst (pc' := 884) (v := 1) dL_law_883 (by decide) rfl ?_
    refine m_iret dL_law_884 rfl (by decide) ⟨Nat.le_of_ble_eq_true rfl, Nat.le_of_ble_eq_true rfl⟩ ?_
    exact hQ _ d1 rfl
  | succ n0 ih =>
    intro k A d1 hk hkL hC hM hO
    have B : ∀ (A2 : AS) (d2 : Dt) (_ : 6 * k + 6 ≤ L) (_ : CR d2 A2) (_ : MM d2 A2) (_ : OK A2), mM G (mLw nm) 877 [some (.long 0), some (.ref 0), some (.ref 214), some (.int (nI (6 * k)))] [] S1 d2 (221, 29311) Q := by
      intro A2 d2 hk6 C2 M2 O2
      refine m_iinc (pc' := 880) dL_law_877 rfl (Nat.le_of_ble_eq_true rfl) (v := nI (6 * (k + 1))) (lw_inc k) rfl rfl ?_
      refine m_goto (tgt := 18) dL_law_880 (by decide) ?_
      exact ih (k + 1) A2 d2 (by omega) (by omega) C2 M2 O2
    refine m_iload_n (pc' := 19) dL_law_18 rfl rfl ?_
    refine m_xload_n (pc' := 20) dL_law_19 rfl rfl ?_
    refine m_salen (pc' := 21) (v := nI L) hS dL_law_20 rfl rfl ?_
    refine m_bipush (pc' := 23) (v := 6) dL_law_21 (by decide) rfl ?_
    refine m_isub (pc' := 24) dL_law_23 rfl ?_
    refine m_icmp_gt (tgt := 883) (pc' := 27) dL_law_24 (by decide) rfl (fun h24 => ?_) (fun h24 => ?_)
    · skip
      refine m_iconst (pc' := 884) (v := 1) dL_law_883 (by decide) rfl ?_
      refine m_iret dL_law_884 rfl (by decide) ⟨Nat.le_of_ble_eq_true rfl, Nat.le_of_ble_eq_true rfl⟩ ?_
      exact hQ _ d1 rfl
    · skip
      have hk6 : 6 * k + 6 ≤ L := Nat.not_lt.mp (fun z => h24 ((lw_gt hL3 hkL).mpr z))
      refine m_xload_n (pc' := 28) dL_law_27 rfl rfl ?_
      refine m_iload_n (pc' := 29) dL_law_28 rfl rfl ?_
      refine m_siald (pc' := 30) (j := 6 * k) hS dL_law_29 rfl (by omega) hL31 rfl ?_
      refine m_bipush (pc' := 32) (v := 31) dL_law_30 (by decide) rfl ?_
      refine m_iand (pc' := 33) dL_law_32 rfl ?_
      by_cases w0 : (xs (6 * k)) &&& 31 = 0
      · skip
        rw [w0]
        refine m_tableIn (tgt := 156) (off := 123) dL_law_33 (by decide) (by decide) rfl (by decide) ?_
        exact lw_c0 hS hL31 hk6 hC hM hO (fun d2 C2 M2 O2 => B _ d2 hk6 C2 M2 O2)
      by_cases w1 : (xs (6 * k)) &&& 31 = 1
      · skip
        rw [w1]
        refine m_tableIn (tgt := 219) (off := 186) dL_law_33 (by decide) (by decide) rfl (by decide) ?_
        exact lw_c1 hS hL31 hk6 hC hM hO (fun d2 C2 M2 O2 => B _ d2 hk6 C2 M2 O2)
      by_cases w2 : (xs (6 * k)) &&& 31 = 2
      · skip
        rw [w2]
        refine m_tableIn (tgt := 252) (off := 219) dL_law_33 (by decide) (by decide) rfl (by decide) ?_
        exact lw_c2 hS hL31 hk6 hC hM hO (fun d2 C2 M2 O2 => B _ d2 hk6 C2 M2 O2)
      by_cases w3 : (xs (6 * k)) &&& 31 = 3
      · skip
        rw [w3]
        refine m_tableIn (tgt := 285) (off := 252) dL_law_33 (by decide) (by decide) rfl (by decide) ?_
        exact lw_c3 hS hL31 hk6 hC hM hO (fun d2 C2 M2 O2 => B _ d2 hk6 C2 M2 O2)
      by_cases w4 : (xs (6 * k)) &&& 31 = 4
      · skip
        rw [w4]
        refine m_tableIn (tgt := 328) (off := 295) dL_law_33 (by decide) (by decide) rfl (by decide) ?_
        exact lw_c4 hS hL31 hk6 hC hM hO (fun d2 C2 M2 O2 => B _ d2 hk6 C2 M2 O2)
      by_cases w5 : (xs (6 * k)) &&& 31 = 5
      · skip
        rw [w5]
        refine m_tableIn (tgt := 351) (off := 318) dL_law_33 (by decide) (by decide) rfl (by decide) ?_
        exact lw_c5 hS hL31 hk6 hC hM hO (fun d2 C2 M2 O2 => B _ d2 hk6 C2 M2 O2)
      by_cases w6 : (xs (6 * k)) &&& 31 = 6
      · skip
        rw [w6]
        refine m_tableIn (tgt := 384) (off := 351) dL_law_33 (by decide) (by decide) rfl (by decide) ?_
        exact lw_c6 hS hL31 hk6 hC hM hO (fun d2 C2 M2 O2 => B _ d2 hk6 C2 M2 O2)
      by_cases w7 : (xs (6 * k)) &&& 31 = 7
      · skip
        rw [w7]
        refine m_tableIn (tgt := 407) (off := 374) dL_law_33 (by decide) (by decide) rfl (by decide) ?_
        exact lw_c7 hS hL31 hk6 hC hM hO (fun d2 C2 M2 O2 => B _ d2 hk6 C2 M2 O2)
      by_cases w8 : (xs (6 * k)) &&& 31 = 8
      · skip
        rw [w8]
        refine m_tableIn (tgt := 430) (off := 397) dL_law_33 (by decide) (by decide) rfl (by decide) ?_
        exact lw_c8 hS hL31 hk6 hC hM hO (fun d2 C2 M2 O2 => B _ d2 hk6 C2 M2 O2)
      by_cases w9 : (xs (6 * k)) &&& 31 = 9
      · skip
        rw [w9]
        refine m_tableIn (tgt := 453) (off := 420) dL_law_33 (by decide) (by decide) rfl (by decide) ?_
        exact lw_c9 hS hL31 hk6 hC hM hO (fun d2 C2 M2 O2 => B _ d2 hk6 C2 M2 O2)
      by_cases w10 : (xs (6 * k)) &&& 31 = 10
      · skip
        rw [w10]
        refine m_tableIn (tgt := 476) (off := 443) dL_law_33 (by decide) (by decide) rfl (by decide) ?_
        exact lw_c10 hS hL31 hk6 hC hM hO (fun d2 C2 M2 O2 => B _ d2 hk6 C2 M2 O2)
      by_cases w11 : (xs (6 * k)) &&& 31 = 11
      · skip
        rw [w11]
        refine m_tableIn (tgt := 499) (off := 466) dL_law_33 (by decide) (by decide) rfl (by decide) ?_
        exact lw_c11 hS hL31 hk6 hC hM hO (fun d2 C2 M2 O2 => B _ d2 hk6 C2 M2 O2)
      by_cases w12 : (xs (6 * k)) &&& 31 = 12
      · skip
        rw [w12]
        refine m_tableIn (tgt := 512) (off := 479) dL_law_33 (by decide) (by decide) rfl (by decide) ?_
        exact lw_c12 hS hL31 hk6 hC hM hO (fun d2 C2 M2 O2 => B _ d2 hk6 C2 M2 O2)
      by_cases w13 : (xs (6 * k)) &&& 31 = 13
      · skip
        rw [w13]
        refine m_tableIn (tgt := 535) (off := 502) dL_law_33 (by decide) (by decide) rfl (by decide) ?_
        exact lw_c13 hS hL31 hk6 hC hM hO (fun d2 C2 M2 O2 => B _ d2 hk6 C2 M2 O2)
      by_cases w14 : (xs (6 * k)) &&& 31 = 14
      · skip
        rw [w14]
        refine m_tableIn (tgt := 548) (off := 515) dL_law_33 (by decide) (by decide) rfl (by decide) ?_
        exact lw_c14 hS hL31 hk6 hC hM hO (fun d2 C2 M2 O2 => B _ d2 hk6 C2 M2 O2)
      by_cases w15 : (xs (6 * k)) &&& 31 = 15
      · skip
        rw [w15]
        refine m_tableIn (tgt := 561) (off := 528) dL_law_33 (by decide) (by decide) rfl (by decide) ?_
        exact lw_c15 hS hL31 hk6 hC hM hO (fun d2 C2 M2 O2 => B _ d2 hk6 C2 M2 O2)
      by_cases w16 : (xs (6 * k)) &&& 31 = 16
      · skip
        rw [w16]
        refine m_tableIn (tgt := 584) (off := 551) dL_law_33 (by decide) (by decide) rfl (by decide) ?_
        exact lw_c16 hS hL31 hk6 hC hM hO (fun d2 C2 M2 O2 => B _ d2 hk6 C2 M2 O2)
      by_cases w17 : (xs (6 * k)) &&& 31 = 17
      · skip
        rw [w17]
        refine m_tableIn (tgt := 617) (off := 584) dL_law_33 (by decide) (by decide) rfl (by decide) ?_
        exact lw_c17 hS hL31 hk6 hC hM hO (fun d2 C2 M2 O2 => B _ d2 hk6 C2 M2 O2)
      by_cases w18 : (xs (6 * k)) &&& 31 = 18
      · skip
        rw [w18]
        refine m_tableIn (tgt := 650) (off := 617) dL_law_33 (by decide) (by decide) rfl (by decide) ?_
        exact lw_c18 hS hL31 hk6 hC hM hO (fun d2 C2 M2 O2 => B _ d2 hk6 C2 M2 O2)
      by_cases w19 : (xs (6 * k)) &&& 31 = 19
      · skip
        rw [w19]
        refine m_tableIn (tgt := 683) (off := 650) dL_law_33 (by decide) (by decide) rfl (by decide) ?_
        exact lw_c19 hS hL31 hk6 hC hM hO (fun d2 C2 M2 O2 => B _ d2 hk6 C2 M2 O2)
      by_cases w20 : (xs (6 * k)) &&& 31 = 20
      · skip
        rw [w20]
        refine m_tableIn (tgt := 716) (off := 683) dL_law_33 (by decide) (by decide) rfl (by decide) ?_
        exact lw_c20 hS hL31 hk6 hC hM hO (fun d2 C2 M2 O2 => B _ d2 hk6 C2 M2 O2)
      by_cases w21 : (xs (6 * k)) &&& 31 = 21
      · skip
        rw [w21]
        refine m_tableIn (tgt := 739) (off := 706) dL_law_33 (by decide) (by decide) rfl (by decide) ?_
        exact lw_c21 hS hL31 hk6 hC hM hO (fun d2 C2 M2 O2 => B _ d2 hk6 C2 M2 O2)
      by_cases w22 : (xs (6 * k)) &&& 31 = 22
      · skip
        rw [w22]
        refine m_tableIn (tgt := 762) (off := 729) dL_law_33 (by decide) (by decide) rfl (by decide) ?_
        exact lw_c22 hS hL31 hk6 hC hM hO (fun d2 C2 M2 O2 => B _ d2 hk6 C2 M2 O2)
      by_cases w23 : (xs (6 * k)) &&& 31 = 23
      · skip
        rw [w23]
        refine m_tableIn (tgt := 795) (off := 762) dL_law_33 (by decide) (by decide) rfl (by decide) ?_
        exact lw_c23 hS hL31 hk6 hC hM hO (fun d2 C2 M2 O2 => B _ d2 hk6 C2 M2 O2)
      by_cases w24 : (xs (6 * k)) &&& 31 = 24
      · skip
        rw [w24]
        refine m_tableIn (tgt := 818) (off := 785) dL_law_33 (by decide) (by decide) rfl (by decide) ?_
        exact lw_c24 hS hL31 hk6 hC hM hO (fun d2 C2 M2 O2 => B _ d2 hk6 C2 M2 O2)
      by_cases w25 : (xs (6 * k)) &&& 31 = 25
      · skip
        rw [w25]
        refine m_tableIn (tgt := 851) (off := 818) dL_law_33 (by decide) (by decide) rfl (by decide) ?_
        exact lw_c25 hS hL31 hk6 hC hM hO (fun d2 C2 M2 O2 => B _ d2 hk6 C2 M2 O2)
      by_cases w26 : (xs (6 * k)) &&& 31 = 26
      · skip
        rw [w26]
        refine m_tableIn (tgt := 864) (off := 831) dL_law_33 (by decide) (by decide) rfl (by decide) ?_
        exact lw_c26 hS hL31 hk6 hC hM hO (fun d2 C2 M2 O2 => B _ d2 hk6 C2 M2 O2)
      refine m_tableOut (tgt := 877) dL_law_33 (by have z0 := tI_ne w0; have y0 : ((0 : Int32)).toInt = 0 := (by decide); have z1 := tI_ne w1; have y1 : ((1 : Int32)).toInt = 1 := (by decide); have z2 := tI_ne w2; have y2 : ((2 : Int32)).toInt = 2 := (by decide); have z3 := tI_ne w3; have y3 : ((3 : Int32)).toInt = 3 := (by decide); have z4 := tI_ne w4; have y4 : ((4 : Int32)).toInt = 4 := (by decide); have z5 := tI_ne w5; have y5 : ((5 : Int32)).toInt = 5 := (by decide); have z6 := tI_ne w6; have y6 : ((6 : Int32)).toInt = 6 := (by decide); have z7 := tI_ne w7; have y7 : ((7 : Int32)).toInt = 7 := (by decide); have z8 := tI_ne w8; have y8 : ((8 : Int32)).toInt = 8 := (by decide); have z9 := tI_ne w9; have y9 : ((9 : Int32)).toInt = 9 := (by decide); have z10 := tI_ne w10; have y10 : ((10 : Int32)).toInt = 10 := (by decide); have z11 := tI_ne w11; have y11 : ((11 : Int32)).toInt = 11 := (by decide); have z12 := tI_ne w12; have y12 : ((12 : Int32)).toInt = 12 := (by decide); have z13 := tI_ne w13; have y13 : ((13 : Int32)).toInt = 13 := (by decide); have z14 := tI_ne w14; have y14 : ((14 : Int32)).toInt = 14 := (by decide); have z15 := tI_ne w15; have y15 : ((15 : Int32)).toInt = 15 := (by decide); have z16 := tI_ne w16; have y16 : ((16 : Int32)).toInt = 16 := (by decide); have z17 := tI_ne w17; have y17 : ((17 : Int32)).toInt = 17 := (by decide); have z18 := tI_ne w18; have y18 : ((18 : Int32)).toInt = 18 := (by decide); have z19 := tI_ne w19; have y19 : ((19 : Int32)).toInt = 19 := (by decide); have z20 := tI_ne w20; have y20 : ((20 : Int32)).toInt = 20 := (by decide); have z21 := tI_ne w21; have y21 : ((21 : Int32)).toInt = 21 := (by decide); have z22 := tI_ne w22; have y22 : ((22 : Int32)).toInt = 22 := (by decide); have z23 := tI_ne w23; have y23 : ((23 : Int32)).toInt = 23 := (by decide); have z24 := tI_ne w24; have y24 : ((24 : Int32)).toInt = 24 := (by decide); have z25 := tI_ne w25; have y25 : ((25 : Int32)).toInt = 25 := (by decide); have z26 := tI_ne w26; have y26 : ((26 : Int32)).toInt = 26 := (by decide); omega) (by decide) ?_
      exact B A d1 hk6 hC hM hO
/-- nothing is there at the law's entry -/
def S0 : Sh := (0, fun _ => 0, fun _ => 0, fun _ _ => none, fun _ => 0)
def D0 : Dt := (fun _ _ => 0, fun _ _ => 0)
set_option maxHeartbeats 4000000 in
set_option maxRecDepth 100000 in
theorem lw_ok (hS : SCR G L xs) (hL3 : L ≤ 3072) : mM G (mLw nm) 0 [some (.long 0), none, none, none] [] S0 D0 (0, 0) (fun v _ _ => v = some (.int 1)) := by
  have eV0 : Vw S0 D0 = ov (Vw S0 D0) 0 0 (fun _ => fsh 0 0) := ov_none
  refine z_new (a := 0) (n := 0) (pc' := 3) (u' := (1, 6)) fn_L_law_7 dL_law_0 ⟨Nat.le_of_ble_eq_true rfl, Nat.le_of_ble_eq_true rfl⟩ rfl rfl rfl eV0 (fun s1 d1 e1 w1 => ?_)
  have v1 : Vw s1 d1 = ov (Vw S0 D0) 0 (0 + 1) bL0 := w1
  refine m_dup (pc' := 4) dL_law_3 rfl ?_
  refine m_callI (pc' := 7) (A := []) (rest := [.ref (0 + 0)]) (b := 0 + 0) (u' := (214, 16694)) cl_L_law_9 dL_law_4 rfl rfl (Nat.le_of_ble_eq_true rfl) ⟨Nat.le_of_ble_eq_true rfl, Nat.le_of_ble_eq_true rfl⟩ rfl rfl ?_
  refine c_iX10 (a := 0 + 0) (e1.trans rfl) ((z_at (m := 0) v1 (by decide)).trans rfl) (fun s2 d2 e2' w2' => ?_)
  have e2 : s2.1 = 0 + 214 := e2'
  have v2 : Vw s2 d2 = ov (Vw S0 D0) 0 (0 + 214) bL1 := by rw [w2', v1]; exact ov_ov (by decide)
  show mM G (mLw nm) 7 [some (.long 0), none, none, none] [.ref 0] s2 d2 (214, 16694) _
  refine m_astore_n (pc' := 8) dL_law_7 (Nat.le_of_ble_eq_true rfl) rfl rfl ?_
  refine z_new (a := 0) (n := 214) (pc' := 11) (u' := (215, 16711)) fn_L_law_10 dL_law_8 ⟨Nat.le_of_ble_eq_true rfl, Nat.le_of_ble_eq_true rfl⟩ rfl rfl e2 v2 (fun s3 d3 e3 w3 => ?_)
  have v3 : Vw s3 d3 = ov (Vw S0 D0) 0 (214 + 1) bL2 := w3
  refine m_dup (pc' := 12) dL_law_11 rfl ?_
  refine m_callI (pc' := 15) (A := []) (rest := [.ref (0 + 214)]) (b := 0 + 214) (u' := (221, 29311)) cl_L_law_12 dL_law_12 rfl rfl (Nat.le_of_ble_eq_true rfl) ⟨Nat.le_of_ble_eq_true rfl, Nat.le_of_ble_eq_true rfl⟩ rfl rfl ?_
  refine c_iX11 (a := 0 + 214) (e3.trans rfl) ((z_at (m := 214) v3 (by decide)).trans rfl) (fun s4 d4 e4' w4' => ?_)
  have e4 : s4.1 = 0 + 221 := e4'
  have v4 : Vw s4 d4 = ov (Vw S0 D0) 0 221 bLw := by rw [w4', v3]; exact ov_ov (m := 214) (s := 7) (by decide)
  show mM G (mLw nm) 15 [some (.long 0), some (.ref 0), none, none] [.ref 214] s4 d4 (221, 29311) _
  refine m_S1 e4 v4 ?_
  refine m_astore_n (pc' := 16) dL_law_15 (Nat.le_of_ble_eq_true rfl) rfl rfl ?_
  refine m_iconst (pc' := 17) (v := 0) dL_law_16 (by decide) rfl ?_
  refine m_istore_n (pc' := 18) dL_law_17 (Nat.le_of_ble_eq_true rfl) rfl rfl ?_
  exact lw_loop hS hL3 (fun v d' h => h) L 0 (A0 d4) d4 (by omega) (by omega) (CR_0 v4) (MM_0 v4) (OK_0 v4)
end LAWW
