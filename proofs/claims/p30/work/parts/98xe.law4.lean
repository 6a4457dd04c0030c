/-! THE LAW'S WALK -/
section LAWW
variable {G : GP} {nm : String} {d : Dt} {Q : Option Value → Sh → Dt → Prop} {L : Nat} {xs : Nat → Int32}
theorem lg_self (x : Int64) : lg_cmp x x = 0 := by unfold lg_cmp; simp
set_option maxHeartbeats 4000000 in
set_option maxRecDepth 100000 in
theorem lt_scan {A : AS} {T t : Nat} (hC : CR d A) (hI : tp_I A T) (hT : T + 128 ≤ 9999) (hn : 0 < nn (a_s A 43)) (hN : ∀ (d' : Dt) (A' : AS), CR d' A' → tp_I A' (T + 128) → mM G (mLw nm) 277 [some (.double 0), some (.ref 0), some (.int (nI t)), none, none, none, none, none, none, none, none, none, none] [] S1 (d') (214, 16694) Q) : mM G (mLw nm) 145 [some (.double 0), some (.ref 0), some (.int (nI t)), none, none, none, none, none, none, none, none, none, none] [] S1 d (214, 16694) Q := by
  obtain ⟨q1, q2, q3, q4, q5, q6, q7, q8⟩ := tp_now hI hT hn
  have h16 := (tp_len hI.1).1
  refine m_aload_n (pc' := 146) dL_law_145 rfl rfl ?_
  refine m_iconst (pc' := 147) (v := 1) dL_law_146 (by decide) rfl ?_
  refine m_callV (pc' := 150) (A := [.int 1]) (rest := []) (b := 0) cl_L_law_12 dL_law_147 rfl rfl (Nat.le_of_ble_eq_true rfl) ⟨Nat.le_of_ble_eq_true rfl, Nat.le_of_ble_eq_true rfl⟩ (by decide) rfl rfl rfl rfl ?_
  refine k_count hC hI.1 (fun e1 fe1 ce1 => ?_)
  show mM G (mLw nm) 150 [some (.double 0), some (.ref 0), some (.int (nI t)), none, none, none, none, none, none, none, none, none, none] [.int (vCount A 1)] S1 e1 (214, 16694) Q
  rw [show (vCount A 1) = (nI (nn (a_s A 43))) from (tp_len hI.1).2]
  refine m_iconst (pc' := 151) (v := 1) dL_law_150 (by decide) rfl ?_
  refine m_isub (pc' := 152) dL_law_151 rfl ?_
  rw [show ((nI (nn (a_s A 43))) - 1) = (nI (nn (a_s A 43) - 1)) from pk_sub (b := 1) hn]
  refine m_istore (pc' := 154) dL_law_152 (Nat.le_of_ble_eq_true rfl) rfl rfl ?_
  refine m_aload_n (pc' := 155) dL_law_154 rfl rfl ?_
  refine m_iload (pc' := 157) dL_law_155 rfl rfl ?_
  refine m_iconst (pc' := 158) (v := 0) dL_law_157 (by decide) rfl ?_
  refine m_callV (pc' := 161) (A := [.int (nI (nn (a_s A 43) - 1)), .int 0]) (rest := []) (b := 0) cl_L_law_74 dL_law_158 rfl rfl (Nat.le_of_ble_eq_true rfl) ⟨Nat.le_of_ble_eq_true rfl, Nat.le_of_ble_eq_true rfl⟩ (by decide) rfl rfl rfl rfl ?_
  refine k_would ce1 hI.1 (fun e2 fe2 ce2 => ?_)
  show mM G (mLw nm) 161 [some (.double 0), some (.ref 0), some (.int (nI t)), none, none, none, none, none, some (.int (nI (nn (a_s A 43) - 1))), none, none, none, none] [.int (vWould A (nI (nn (a_s A 43) - 1)) 0)] S1 e2 (214, 16694) Q
  refine m_istore (pc' := 163) dL_law_161 (Nat.le_of_ble_eq_true rfl) rfl rfl ?_
  refine m_aload_n (pc' := 164) dL_law_163 rfl rfl ?_
  refine m_iload (pc' := 166) dL_law_164 rfl rfl ?_
  refine m_iconst (pc' := 167) (v := 1) dL_law_166 (by decide) rfl ?_
  refine m_callV (pc' := 170) (A := [.int (nI (nn (a_s A 43) - 1)), .int 1]) (rest := []) (b := 0) cl_L_law_74 dL_law_167 rfl rfl (Nat.le_of_ble_eq_true rfl) ⟨Nat.le_of_ble_eq_true rfl, Nat.le_of_ble_eq_true rfl⟩ (by decide) rfl rfl rfl rfl ?_
  refine k_would ce2 hI.1 (fun e3 fe3 ce3 => ?_)
  show mM G (mLw nm) 170 [some (.double 0), some (.ref 0), some (.int (nI t)), none, none, none, none, none, some (.int (nI (nn (a_s A 43) - 1))), some (.int (vWould A (nI (nn (a_s A 43) - 1)) 0)), none, none, none] [.int (vWould A (nI (nn (a_s A 43) - 1)) 1)] S1 e3 (214, 16694) Q
  refine m_istore (pc' := 172) dL_law_170 (Nat.le_of_ble_eq_true rfl) rfl rfl ?_
  refine m_aload_n (pc' := 173) dL_law_172 rfl rfl ?_
  refine m_iload (pc' := 175) dL_law_173 rfl rfl ?_
  refine m_iconst (pc' := 176) (v := 2) dL_law_175 (by decide) rfl ?_
  refine m_callV (pc' := 179) (A := [.int (nI (nn (a_s A 43) - 1)), .int 2]) (rest := []) (b := 0) cl_L_law_74 dL_law_176 rfl rfl (Nat.le_of_ble_eq_true rfl) ⟨Nat.le_of_ble_eq_true rfl, Nat.le_of_ble_eq_true rfl⟩ (by decide) rfl rfl rfl rfl ?_
  refine k_would ce3 hI.1 (fun e4 fe4 ce4 => ?_)
  show mM G (mLw nm) 179 [some (.double 0), some (.ref 0), some (.int (nI t)), none, none, none, none, none, some (.int (nI (nn (a_s A 43) - 1))), some (.int (vWould A (nI (nn (a_s A 43) - 1)) 0)), some (.int (vWould A (nI (nn (a_s A 43) - 1)) 1)), none, none] [.int (vWould A (nI (nn (a_s A 43) - 1)) 2)] S1 e4 (214, 16694) Q
  refine m_istore (pc' := 181) dL_law_179 (Nat.le_of_ble_eq_true rfl) rfl rfl ?_
  refine m_aload_n (pc' := 182) dL_law_181 rfl rfl ?_
  refine m_iconst (pc' := 183) (v := 0) dL_law_182 (by decide) rfl ?_
  refine m_callV (pc' := 186) (A := [.int 0]) (rest := []) (b := 0) cl_L_law_12 dL_law_183 rfl rfl (Nat.le_of_ble_eq_true rfl) ⟨Nat.le_of_ble_eq_true rfl, Nat.le_of_ble_eq_true rfl⟩ (by decide) rfl rfl rfl rfl ?_
  refine k_count ce4 hI.1 (fun e5 fe5 ce5 => ?_)
  show mM G (mLw nm) 186 [some (.double 0), some (.ref 0), some (.int (nI t)), none, none, none, none, none, some (.int (nI (nn (a_s A 43) - 1))), some (.int (vWould A (nI (nn (a_s A 43) - 1)) 0)), some (.int (vWould A (nI (nn (a_s A 43) - 1)) 1)), some (.int (vWould A (nI (nn (a_s A 43) - 1)) 2)), none] [.int (vCount A 0)] S1 e5 (214, 16694) Q
  refine m_aload_n (pc' := 187) dL_law_186 rfl rfl ?_
  refine m_bipush (pc' := 189) (v := 7) dL_law_187 (by decide) rfl ?_
  refine m_callV (pc' := 192) (A := [.int 7]) (rest := [.int (vCount A 0)]) (b := 0) cl_L_law_12 dL_law_189 rfl rfl (Nat.le_of_ble_eq_true rfl) ⟨Nat.le_of_ble_eq_true rfl, Nat.le_of_ble_eq_true rfl⟩ (by decide) rfl rfl rfl rfl ?_
  refine k_count ce5 hI.1 (fun e6 fe6 ce6 => ?_)
  show mM G (mLw nm) 192 [some (.double 0), some (.ref 0), some (.int (nI t)), none, none, none, none, none, some (.int (nI (nn (a_s A 43) - 1))), some (.int (vWould A (nI (nn (a_s A 43) - 1)) 0)), some (.int (vWould A (nI (nn (a_s A 43) - 1)) 1)), some (.int (vWould A (nI (nn (a_s A 43) - 1)) 2)), none] [.int (vCount A 7), .int (vCount A 0)] S1 e6 (214, 16694) Q
  refine m_iadd (pc' := 193) dL_law_192 rfl ?_
  refine m_istore (pc' := 195) dL_law_193 (Nat.le_of_ble_eq_true rfl) rfl rfl ?_
  refine m_aload_n (pc' := 196) dL_law_195 rfl rfl ?_
  refine m_iconst (pc' := 197) (v := 1) dL_law_196 (by decide) rfl ?_
  refine m_callV (pc' := 200) (A := [.int 1]) (rest := []) (b := 0) cl_L_law_71 dL_law_197 rfl rfl (Nat.le_of_ble_eq_true rfl) ⟨Nat.le_of_ble_eq_true rfl, Nat.le_of_ble_eq_true rfl⟩ (by decide) rfl rfl rfl rfl ?_
  refine k_scan ce6 hI.1 (fun e7 fe7 ce7 => ?_)
  show mM G (mLw nm) 200 [some (.double 0), some (.ref 0), some (.int (nI t)), none, none, none, none, none, some (.int (nI (nn (a_s A 43) - 1))), some (.int (vWould A (nI (nn (a_s A 43) - 1)) 0)), some (.int (vWould A (nI (nn (a_s A 43) - 1)) 1)), some (.int (vWould A (nI (nn (a_s A 43) - 1)) 2)), some (.int ((vCount A 0) + (vCount A 7)))] [.int ((opScan A 1).1)] S1 e7 (214, 16694) Q
  refine m_if_lt (tgt := 275) (pc' := 203) dL_law_200 (by decide) rfl (fun h200 => absurd h200 (q1)) (fun h200 => ?_)
  refine m_aload_n (pc' := 204) dL_law_203 rfl rfl ?_
  refine m_iconst (pc' := 205) (v := 0) dL_law_204 (by decide) rfl ?_
  refine m_callV (pc' := 208) (A := [.int 0]) (rest := []) (b := 0) cl_L_law_12 dL_law_205 rfl rfl (Nat.le_of_ble_eq_true rfl) ⟨Nat.le_of_ble_eq_true rfl, Nat.le_of_ble_eq_true rfl⟩ (by decide) rfl rfl rfl rfl ?_
  refine k_count ce7 (O_scan hI.1) (fun e8 fe8 ce8 => ?_)
  show mM G (mLw nm) 208 [some (.double 0), some (.ref 0), some (.int (nI t)), none, none, none, none, none, some (.int (nI (nn (a_s A 43) - 1))), some (.int (vWould A (nI (nn (a_s A 43) - 1)) 0)), some (.int (vWould A (nI (nn (a_s A 43) - 1)) 1)), some (.int (vWould A (nI (nn (a_s A 43) - 1)) 2)), some (.int ((vCount A 0) + (vCount A 7)))] [.int (vCount ((opScan A 1).2) 0)] S1 e8 (214, 16694) Q
  rw [show (vCount ((opScan A 1).2) 0) = (vCount A 0 + vCount A 7) from q3]
  refine m_iload (pc' := 210) dL_law_208 rfl rfl ?_
  refine m_icmp_ne (tgt := 275) (pc' := 213) dL_law_210 (by decide) rfl (fun h210 => absurd h210 (fun z => z rfl)) (fun h210 => ?_)
  refine m_aload_n (pc' := 214) dL_law_213 rfl rfl ?_
  refine m_iconst (pc' := 215) (v := 0) dL_law_214 (by decide) rfl ?_
  refine m_iconst (pc' := 216) (v := 0) dL_law_215 (by decide) rfl ?_
  refine m_callV (pc' := 219) (A := [.int 0, .int 0]) (rest := []) (b := 0) cl_L_law_25 dL_law_216 rfl rfl (Nat.le_of_ble_eq_true rfl) ⟨Nat.le_of_ble_eq_true rfl, Nat.le_of_ble_eq_true rfl⟩ (by decide) rfl rfl rfl rfl ?_
  refine k_sample ce8 (O_scan hI.1) (fun e9 fe9 ce9 => ?_)
  show mM G (mLw nm) 219 [some (.double 0), some (.ref 0), some (.int (nI t)), none, none, none, none, none, some (.int (nI (nn (a_s A 43) - 1))), some (.int (vWould A (nI (nn (a_s A 43) - 1)) 0)), some (.int (vWould A (nI (nn (a_s A 43) - 1)) 1)), some (.int (vWould A (nI (nn (a_s A 43) - 1)) 2)), some (.int ((vCount A 0) + (vCount A 7)))] [.int (vSample ((opScan A 1).2) 0 0)] S1 e9 (214, 16694) Q
  rw [show (vSample ((opScan A 1).2) 0 0) = (vEntry (opScan A 1).2 (nI (nn (a_s A 43) - 1)) 0) from q4]
  refine m_aload_n (pc' := 220) dL_law_219 rfl rfl ?_
  refine m_iload (pc' := 222) dL_law_220 rfl rfl ?_
  refine m_iconst (pc' := 223) (v := 0) dL_law_222 (by decide) rfl ?_
  refine m_callV (pc' := 226) (A := [.int (nI (nn (a_s A 43) - 1)), .int 0]) (rest := [.int (vEntry (opScan A 1).2 (nI (nn (a_s A 43) - 1)) 0)]) (b := 0) cl_L_law_22 dL_law_223 rfl rfl (Nat.le_of_ble_eq_true rfl) ⟨Nat.le_of_ble_eq_true rfl, Nat.le_of_ble_eq_true rfl⟩ (by decide) rfl rfl rfl rfl ?_
  refine k_entry ce9 (O_scan hI.1) (fun e10 fe10 ce10 => ?_)
  show mM G (mLw nm) 226 [some (.double 0), some (.ref 0), some (.int (nI t)), none, none, none, none, none, some (.int (nI (nn (a_s A 43) - 1))), some (.int (vWould A (nI (nn (a_s A 43) - 1)) 0)), some (.int (vWould A (nI (nn (a_s A 43) - 1)) 1)), some (.int (vWould A (nI (nn (a_s A 43) - 1)) 2)), some (.int ((vCount A 0) + (vCount A 7)))] [.int (vEntry ((opScan A 1).2) (nI (nn (a_s A 43) - 1)) 0), .int (vEntry (opScan A 1).2 (nI (nn (a_s A 43) - 1)) 0)] S1 e10 (214, 16694) Q
  refine m_icmp_ne (tgt := 275) (pc' := 229) dL_law_226 (by decide) rfl (fun h226 => absurd h226 (fun z => z rfl)) (fun h226 => ?_)
  refine m_aload_n (pc' := 230) dL_law_229 rfl rfl ?_
  refine m_iconst (pc' := 231) (v := 0) dL_law_230 (by decide) rfl ?_
  refine m_iconst (pc' := 232) (v := 1) dL_law_231 (by decide) rfl ?_
  refine m_callV (pc' := 235) (A := [.int 0, .int 1]) (rest := []) (b := 0) cl_L_law_25 dL_law_232 rfl rfl (Nat.le_of_ble_eq_true rfl) ⟨Nat.le_of_ble_eq_true rfl, Nat.le_of_ble_eq_true rfl⟩ (by decide) rfl rfl rfl rfl ?_
  refine k_sample ce10 (O_scan hI.1) (fun e11 fe11 ce11 => ?_)
  show mM G (mLw nm) 235 [some (.double 0), some (.ref 0), some (.int (nI t)), none, none, none, none, none, some (.int (nI (nn (a_s A 43) - 1))), some (.int (vWould A (nI (nn (a_s A 43) - 1)) 0)), some (.int (vWould A (nI (nn (a_s A 43) - 1)) 1)), some (.int (vWould A (nI (nn (a_s A 43) - 1)) 2)), some (.int ((vCount A 0) + (vCount A 7)))] [.int (vSample ((opScan A 1).2) 0 1)] S1 e11 (214, 16694) Q
  rw [show (vSample ((opScan A 1).2) 0 1) = (vCount A 0 + vCount A 7 - 1) from q5]
  refine m_iload (pc' := 237) dL_law_235 rfl rfl ?_
  refine m_iconst (pc' := 238) (v := 1) dL_law_237 (by decide) rfl ?_
  refine m_isub (pc' := 239) dL_law_238 rfl ?_
  refine m_icmp_ne (tgt := 275) (pc' := 242) dL_law_239 (by decide) rfl (fun h239 => absurd h239 (fun z => z rfl)) (fun h239 => ?_)
  refine m_aload_n (pc' := 243) dL_law_242 rfl rfl ?_
  refine m_iconst (pc' := 244) (v := 0) dL_law_243 (by decide) rfl ?_
  refine m_iconst (pc' := 245) (v := 2) dL_law_244 (by decide) rfl ?_
  refine m_callV (pc' := 248) (A := [.int 0, .int 2]) (rest := []) (b := 0) cl_L_law_25 dL_law_245 rfl rfl (Nat.le_of_ble_eq_true rfl) ⟨Nat.le_of_ble_eq_true rfl, Nat.le_of_ble_eq_true rfl⟩ (by decide) rfl rfl rfl rfl ?_
  refine k_sample ce11 (O_scan hI.1) (fun e12 fe12 ce12 => ?_)
  show mM G (mLw nm) 248 [some (.double 0), some (.ref 0), some (.int (nI t)), none, none, none, none, none, some (.int (nI (nn (a_s A 43) - 1))), some (.int (vWould A (nI (nn (a_s A 43) - 1)) 0)), some (.int (vWould A (nI (nn (a_s A 43) - 1)) 1)), some (.int (vWould A (nI (nn (a_s A 43) - 1)) 2)), some (.int ((vCount A 0) + (vCount A 7)))] [.int (vSample ((opScan A 1).2) 0 2)] S1 e12 (214, 16694) Q
  rw [show (vSample ((opScan A 1).2) 0 2) = (vWould A (nI (nn (a_s A 43) - 1)) 0) from q6]
  refine m_iload (pc' := 250) dL_law_248 rfl rfl ?_
  refine m_icmp_ne (tgt := 275) (pc' := 253) dL_law_250 (by decide) rfl (fun h250 => absurd h250 (fun z => z rfl)) (fun h250 => ?_)
  refine m_aload_n (pc' := 254) dL_law_253 rfl rfl ?_
  refine m_iconst (pc' := 255) (v := 0) dL_law_254 (by decide) rfl ?_
  refine m_iconst (pc' := 256) (v := 3) dL_law_255 (by decide) rfl ?_
  refine m_callV (pc' := 259) (A := [.int 0, .int 3]) (rest := []) (b := 0) cl_L_law_25 dL_law_256 rfl rfl (Nat.le_of_ble_eq_true rfl) ⟨Nat.le_of_ble_eq_true rfl, Nat.le_of_ble_eq_true rfl⟩ (by decide) rfl rfl rfl rfl ?_
  refine k_sample ce12 (O_scan hI.1) (fun e13 fe13 ce13 => ?_)
  show mM G (mLw nm) 259 [some (.double 0), some (.ref 0), some (.int (nI t)), none, none, none, none, none, some (.int (nI (nn (a_s A 43) - 1))), some (.int (vWould A (nI (nn (a_s A 43) - 1)) 0)), some (.int (vWould A (nI (nn (a_s A 43) - 1)) 1)), some (.int (vWould A (nI (nn (a_s A 43) - 1)) 2)), some (.int ((vCount A 0) + (vCount A 7)))] [.int (vSample ((opScan A 1).2) 0 3)] S1 e13 (214, 16694) Q
  rw [show (vSample ((opScan A 1).2) 0 3) = (vWould A (nI (nn (a_s A 43) - 1)) 1) from q7]
  refine m_iload (pc' := 261) dL_law_259 rfl rfl ?_
  refine m_icmp_ne (tgt := 275) (pc' := 264) dL_law_261 (by decide) rfl (fun h261 => absurd h261 (fun z => z rfl)) (fun h261 => ?_)
  refine m_aload_n (pc' := 265) dL_law_264 rfl rfl ?_
  refine m_iconst (pc' := 266) (v := 0) dL_law_265 (by decide) rfl ?_
  refine m_iconst (pc' := 267) (v := 4) dL_law_266 (by decide) rfl ?_
  refine m_callV (pc' := 270) (A := [.int 0, .int 4]) (rest := []) (b := 0) cl_L_law_25 dL_law_267 rfl rfl (Nat.le_of_ble_eq_true rfl) ⟨Nat.le_of_ble_eq_true rfl, Nat.le_of_ble_eq_true rfl⟩ (by decide) rfl rfl rfl rfl ?_
  refine k_sample ce13 (O_scan hI.1) (fun e14 fe14 ce14 => ?_)
  show mM G (mLw nm) 270 [some (.double 0), some (.ref 0), some (.int (nI t)), none, none, none, none, none, some (.int (nI (nn (a_s A 43) - 1))), some (.int (vWould A (nI (nn (a_s A 43) - 1)) 0)), some (.int (vWould A (nI (nn (a_s A 43) - 1)) 1)), some (.int (vWould A (nI (nn (a_s A 43) - 1)) 2)), some (.int ((vCount A 0) + (vCount A 7)))] [.int (vSample ((opScan A 1).2) 0 4)] S1 e14 (214, 16694) Q
  rw [show (vSample ((opScan A 1).2) 0 4) = (vWould A (nI (nn (a_s A 43) - 1)) 2) from q8]
  refine m_iload (pc' := 272) dL_law_270 rfl rfl ?_
  refine m_icmp_eq (tgt := 277) (pc' := 275) dL_law_272 (by decide) rfl (fun h272 => ?_) (fun h272 => (h272 rfl).elim)
  refine m_drop 8 (lo' := [some (.double 0), some (.ref 0), some (.int (nI t)), none, none, none, none, none, none, some (.int (vWould A (nI (nn (a_s A 43) - 1)) 0)), some (.int (vWould A (nI (nn (a_s A 43) - 1)) 1)), some (.int (vWould A (nI (nn (a_s A 43) - 1)) 2)), some (.int ((vCount A 0) + (vCount A 7)))]) rfl ?_
  refine m_drop 9 (lo' := [some (.double 0), some (.ref 0), some (.int (nI t)), none, none, none, none, none, none, none, some (.int (vWould A (nI (nn (a_s A 43) - 1)) 1)), some (.int (vWould A (nI (nn (a_s A 43) - 1)) 2)), some (.int ((vCount A 0) + (vCount A 7)))]) rfl ?_
  refine m_drop 10 (lo' := [some (.double 0), some (.ref 0), some (.int (nI t)), none, none, none, none, none, none, none, none, some (.int (vWould A (nI (nn (a_s A 43) - 1)) 2)), some (.int ((vCount A 0) + (vCount A 7)))]) rfl ?_
  refine m_drop 11 (lo' := [some (.double 0), some (.ref 0), some (.int (nI t)), none, none, none, none, none, none, none, none, none, some (.int ((vCount A 0) + (vCount A 7)))]) rfl ?_
  refine m_drop 12 (lo' := [some (.double 0), some (.ref 0), some (.int (nI t)), none, none, none, none, none, none, none, none, none, none]) rfl ?_
  exact hN _ _ ce14 q2
set_option maxHeartbeats 4000000 in
set_option maxRecDepth 100000 in
theorem lt_tail {A : AS} {T t : Nat} (hC : CR d A) (hI : tp_I A T) (hT : T + 128 ≤ 9999) (hN : ∀ (d' : Dt) (A' : AS), CR d' A' → tp_I A' (T + 128) → mM G (mLw nm) 277 [some (.double 0), some (.ref 0), some (.int (nI t)), none, none, none, none, none, none, none, none, none, none] [] S1 (d') (214, 16694) Q) : mM G (mLw nm) 130 [some (.double 0), some (.ref 0), some (.int (nI t)), none, none, none, none, none, none, none, none, none, none] [] S1 d (214, 16694) Q := by
  refine m_aload_n (pc' := 131) dL_law_130 rfl rfl ?_
  refine m_iconst (pc' := 132) (v := 1) dL_law_131 (by decide) rfl ?_
  refine m_callV (pc' := 135) (A := [.int 1]) (rest := []) (b := 0) cl_L_law_12 dL_law_132 rfl rfl (Nat.le_of_ble_eq_true rfl) ⟨Nat.le_of_ble_eq_true rfl, Nat.le_of_ble_eq_true rfl⟩ (by decide) rfl rfl rfl rfl ?_
  refine k_count hC hI.1 (fun e1 fe1 ce1 => ?_)
  show mM G (mLw nm) 135 [some (.double 0), some (.ref 0), some (.int (nI t)), none, none, none, none, none, none, none, none, none, none] [.int (vCount A 1)] S1 e1 (214, 16694) Q
  refine m_if_le (tgt := 277) (pc' := 138) dL_law_135 (by decide) rfl (fun h135 => ?_) (fun h135 => ?_)
  · skip
    exact hN _ _ ce1 (tp_I_mono (Nat.le_add_right _ _) hI)
  · skip
    refine m_iload_n (pc' := 139) dL_law_138 rfl rfl ?_
    refine m_iconst (pc' := 140) (v := 3) dL_law_139 (by decide) rfl ?_
    refine m_iand (pc' := 141) dL_law_140 rfl ?_
    refine m_iconst (pc' := 142) (v := 3) dL_law_141 (by decide) rfl ?_
    refine m_icmp_ne (tgt := 277) (pc' := 145) dL_law_142 (by decide) rfl (fun h142 => ?_) (fun h142 => ?_)
    · skip
      exact hN _ _ ce1 (tp_I_mono (Nat.le_add_right _ _) hI)
    · skip
      exact lt_scan ce1 hI hT (Nat.pos_of_ne_zero (fun z => h135 (by rw [show vCount A 1 = nI (nn (a_s A 43)) from (tp_len hI.1).2, z]; exact Int32.le_refl _))) hN
set_option maxHeartbeats 4000000 in
set_option maxRecDepth 100000 in
theorem lt_bad {A : AS} {T t : Nat} (hC : CR d A) (hI : tp_I A T) (hT : T + 128 ≤ 9999) {y g : Int32} (hN : ∀ (d' : Dt) (A' : AS), CR d' A' → tp_I A' (T + 128) → mM G (mLw nm) 277 [some (.double 0), some (.ref 0), some (.int (nI t)), none, none, none, none, none, none, none, none, none, none] [] S1 (d') (214, 16694) Q) : mM G (mLw nm) 42 [some (.double 0), some (.ref 0), some (.int (nI t)), some (.int y), some (.long (dgF A)), none, some (.int g), none, none, none, none, none, none] [] S1 d (214, 16694) Q := by
  refine m_iconst (pc' := 43) (v := 1) dL_law_42 (by decide) rfl ?_
  refine m_goto (tgt := 47) dL_law_43 (by decide) ?_
  refine m_istore (pc' := 49) dL_law_47 (Nat.le_of_ble_eq_true rfl) rfl rfl ?_
  refine m_iload (pc' := 51) dL_law_49 rfl rfl ?_
  refine m_if_eq (tgt := 64) (pc' := 54) dL_law_51 (by decide) rfl (fun h51 => absurd h51 (by decide)) (fun h51 => ?_)
  refine m_aload_n (pc' := 55) dL_law_54 rfl rfl ?_
  refine m_callS (pc' := 58) (A := [.ref 0]) (rest := []) cl_L_law_102 dL_law_55 rfl rfl (Nat.le_of_ble_eq_true rfl) ⟨Nat.le_of_ble_eq_true rfl, Nat.le_of_ble_eq_true rfl⟩ rfl rfl ?_
  refine lw_digest hC hI.1 (fun e1 ce1 => ?_)
  show mM G (mLw nm) 58 [some (.double 0), some (.ref 0), some (.int (nI t)), some (.int y), some (.long (dgF A)), none, some (.int g), some (.int 1), none, none, none, none, none] [.long (dgF A)] S1 e1 (214, 16694) Q
  refine m_lload (pc' := 60) dL_law_58 rfl rfl rfl ?_
  refine m_lcmp (pc' := 61) dL_law_60 rfl ?_
  rw [show (lg_cmp (dgF A) (dgF A)) = 0 from lg_self _]
  refine m_if_ne (tgt := 71) (pc' := 64) dL_law_61 (by decide) rfl (fun h61 => absurd h61 (by decide)) (fun h61 => ?_)
  refine m_aload_n (pc' := 65) dL_law_64 rfl rfl ?_
  refine m_callS (pc' := 68) (A := [.ref 0]) (rest := []) cl_L_law_111 dL_law_65 rfl rfl (Nat.le_of_ble_eq_true rfl) ⟨Nat.le_of_ble_eq_true rfl, Nat.le_of_ble_eq_true rfl⟩ rfl rfl ?_
  refine lw_isRight ce1 hI (by omega) (fun e2 ce2 => ?_)
  show mM G (mLw nm) 68 [some (.double 0), some (.ref 0), some (.int (nI t)), some (.int y), some (.long (dgF A)), none, some (.int g), some (.int 1), none, none, none, none, none] [.int 1] S1 e2 (214, 16694) Q
  refine m_if_ne (tgt := 73) (pc' := 71) dL_law_68 (by decide) rfl (fun h68 => ?_) (fun h68 => absurd h68 (by decide))
  refine m_iload (pc' := 75) dL_law_73 rfl rfl ?_
  refine m_if_ne (tgt := 130) (pc' := 78) dL_law_75 (by decide) rfl (fun h75 => ?_) (fun h75 => absurd h75 (by decide))
  refine m_drop 3 (lo' := [some (.double 0), some (.ref 0), some (.int (nI t)), none, some (.long (dgF A)), none, some (.int g), some (.int 1), none, none, none, none, none]) rfl ?_
  refine m_drop 4 (lo' := [some (.double 0), some (.ref 0), some (.int (nI t)), none, none, none, some (.int g), some (.int 1), none, none, none, none, none]) rfl ?_
  refine m_drop 6 (lo' := [some (.double 0), some (.ref 0), some (.int (nI t)), none, none, none, none, some (.int 1), none, none, none, none, none]) rfl ?_
  refine m_drop 7 (lo' := [some (.double 0), some (.ref 0), some (.int (nI t)), none, none, none, none, none, none, none, none, none, none]) rfl ?_
  exact lt_tail ce2 hI hT hN
set_option maxHeartbeats 4000000 in
set_option maxRecDepth 100000 in
theorem lt_good {A : AS} {T t : Nat} {y : Int32} (hC : CR d (actL A y).2) (hIA : tp_I A T) (hTA : T + 384 ≤ 9999) (hng : ¬ (actL A y).1 ≤ -10000001) (hT : T + 384 + 128 ≤ 9999) (hN : ∀ (d' : Dt) (A' : AS), CR d' A' → tp_I A' (T + 384 + 128) → mM G (mLw nm) 277 [some (.double 0), some (.ref 0), some (.int (nI t)), none, none, none, none, none, none, none, none, none, none] [] S1 (d') (214, 16694) Q) : mM G (mLw nm) 46 [some (.double 0), some (.ref 0), some (.int (nI t)), some (.int y), some (.long (dgF A)), none, some (.int ((actL A y).1)), none, none, none, none, none, none] [] S1 d (214, 16694) Q := by
  obtain ⟨-, hI1, hu1, hI2, hd2, ha3, hd3, hI3⟩ := (tp_turn y hIA hTA).resolve_left (fun z => hng z.1)
  refine m_iconst (pc' := 47) (v := 0) dL_law_46 (by decide) rfl ?_
  refine m_istore (pc' := 49) dL_law_47 (Nat.le_of_ble_eq_true rfl) rfl rfl ?_
  refine m_iload (pc' := 51) dL_law_49 rfl rfl ?_
  refine m_if_eq (tgt := 64) (pc' := 54) dL_law_51 (by decide) rfl (fun h51 => ?_) (fun h51 => absurd h51 (by decide))
  refine m_aload_n (pc' := 65) dL_law_64 rfl rfl ?_
  refine m_callS (pc' := 68) (A := [.ref 0]) (rest := []) cl_L_law_111 dL_law_65 rfl rfl (Nat.le_of_ble_eq_true rfl) ⟨Nat.le_of_ble_eq_true rfl, Nat.le_of_ble_eq_true rfl⟩ rfl rfl ?_
  refine lw_isRight hC hI1 (by omega) (fun e1 ce1 => ?_)
  show mM G (mLw nm) 68 [some (.double 0), some (.ref 0), some (.int (nI t)), some (.int y), some (.long (dgF A)), none, some (.int ((actL A y).1)), some (.int 0), none, none, none, none, none] [.int 1] S1 e1 (214, 16694) Q
  refine m_if_ne (tgt := 73) (pc' := 71) dL_law_68 (by decide) rfl (fun h68 => ?_) (fun h68 => absurd h68 (by decide))
  refine m_iload (pc' := 75) dL_law_73 rfl rfl ?_
  refine m_if_ne (tgt := 130) (pc' := 78) dL_law_75 (by decide) rfl (fun h75 => absurd h75 (by decide)) (fun h75 => ?_)
  refine m_iload_n (pc' := 79) dL_law_78 rfl rfl ?_
  refine m_iconst (pc' := 80) (v := 3) dL_law_79 (by decide) rfl ?_
  refine m_iand (pc' := 81) dL_law_80 rfl ?_
  refine m_iconst (pc' := 82) (v := 2) dL_law_81 (by decide) rfl ?_
  refine m_icmp_ne (tgt := 130) (pc' := 85) dL_law_82 (by decide) rfl (fun h82 => ?_) (fun h82 => ?_)
  · skip
    refine m_drop 3 (lo' := [some (.double 0), some (.ref 0), some (.int (nI t)), none, some (.long (dgF A)), none, some (.int ((actL A y).1)), some (.int 0), none, none, none, none, none]) rfl ?_
    refine m_drop 4 (lo' := [some (.double 0), some (.ref 0), some (.int (nI t)), none, none, none, some (.int ((actL A y).1)), some (.int 0), none, none, none, none, none]) rfl ?_
    refine m_drop 6 (lo' := [some (.double 0), some (.ref 0), some (.int (nI t)), none, none, none, none, some (.int 0), none, none, none, none, none]) rfl ?_
    refine m_drop 7 (lo' := [some (.double 0), some (.ref 0), some (.int (nI t)), none, none, none, none, none, none, none, none, none, none]) rfl ?_
    exact lt_tail ce1 hI1 hT hN
  · skip
    refine m_aload_n (pc' := 86) dL_law_85 rfl rfl ?_
    refine m_callS (pc' := 89) (A := [.ref 0]) (rest := []) cl_L_law_102 dL_law_86 rfl rfl (Nat.le_of_ble_eq_true rfl) ⟨Nat.le_of_ble_eq_true rfl, Nat.le_of_ble_eq_true rfl⟩ rfl rfl ?_
    refine lw_digest ce1 hI1.1 (fun e2 ce2 => ?_)
    show mM G (mLw nm) 89 [some (.double 0), some (.ref 0), some (.int (nI t)), some (.int y), some (.long (dgF A)), none, some (.int ((actL A y).1)), some (.int 0), none, none, none, none, none] [.long (dgF ((actL A y).2))] S1 e2 (214, 16694) Q
    refine m_lstore (pc' := 91) dL_law_89 (Nat.le_of_ble_eq_true rfl) rfl rfl ?_
    refine m_aload_n (pc' := 92) dL_law_91 rfl rfl ?_
    refine m_callV (pc' := 95) (A := []) (rest := []) (b := 0) cl_L_law_115 dL_law_92 rfl rfl (Nat.le_of_ble_eq_true rfl) ⟨Nat.le_of_ble_eq_true rfl, Nat.le_of_ble_eq_true rfl⟩ (by decide) rfl rfl rfl rfl ?_
    refine k_undo ce2 hI1.1 (fun e3 fe3 ce3 => ?_)
    show mM G (mLw nm) 95 [some (.double 0), some (.ref 0), some (.int (nI t)), some (.int y), some (.long (dgF A)), none, some (.int ((actL A y).1)), some (.int 0), some (.long (dgF ((actL A y).2))), none, none, none, none] [.int ((opUndo ((actL A y).2)).1)] S1 e3 (214, 16694) Q
    refine m_if_lt (tgt := 128) (pc' := 98) dL_law_95 (by decide) rfl (fun h95 => absurd h95 (hu1)) (fun h95 => ?_)
    refine m_aload_n (pc' := 99) dL_law_98 rfl rfl ?_
    refine m_callS (pc' := 102) (A := [.ref 0]) (rest := []) cl_L_law_102 dL_law_99 rfl rfl (Nat.le_of_ble_eq_true rfl) ⟨Nat.le_of_ble_eq_true rfl, Nat.le_of_ble_eq_true rfl⟩ rfl rfl ?_
    refine lw_digest ce3 (O_undo hI1.1) (fun e4 ce4 => ?_)
    show mM G (mLw nm) 102 [some (.double 0), some (.ref 0), some (.int (nI t)), some (.int y), some (.long (dgF A)), none, some (.int ((actL A y).1)), some (.int 0), some (.long (dgF ((actL A y).2))), none, none, none, none] [.long (dgF ((opUndo ((actL A y).2)).2))] S1 e4 (214, 16694) Q
    refine m_lload (pc' := 104) dL_law_102 rfl rfl rfl ?_
    refine m_lcmp (pc' := 105) dL_law_104 rfl ?_
    rw [show (lg_cmp (dgF ((opUndo ((actL A y).2)).2)) (dgF A)) = 0 from by rw [hd2]; exact lg_self _]
    refine m_if_ne (tgt := 128) (pc' := 108) dL_law_105 (by decide) rfl (fun h105 => absurd h105 (by decide)) (fun h105 => ?_)
    refine m_aload_n (pc' := 109) dL_law_108 rfl rfl ?_
    refine m_iload_n (pc' := 110) dL_law_109 rfl rfl ?_
    refine m_callS (pc' := 113) (A := [.ref 0, .int y]) (rest := []) cl_L_law_106 dL_law_110 rfl rfl (Nat.le_of_ble_eq_true rfl) ⟨Nat.le_of_ble_eq_true rfl, Nat.le_of_ble_eq_true rfl⟩ rfl rfl ?_
    refine lw_act ce4 (O_undo hI1.1) (fun e5 ce5 => ?_)
    show mM G (mLw nm) 113 [some (.double 0), some (.ref 0), some (.int (nI t)), some (.int y), some (.long (dgF A)), none, some (.int ((actL A y).1)), some (.int 0), some (.long (dgF ((actL A y).2))), none, none, none, none] [.int ((actL ((opUndo ((actL A y).2)).2) y).1)] S1 e5 (214, 16694) Q
    rw [show ((actL ((opUndo ((actL A y).2)).2) y).1) = ((actL A y).1) from ha3]
    refine m_iload (pc' := 115) dL_law_113 rfl rfl ?_
    refine m_icmp_ne (tgt := 128) (pc' := 118) dL_law_115 (by decide) rfl (fun h115 => absurd h115 (fun z => z rfl)) (fun h115 => ?_)
    refine m_aload_n (pc' := 119) dL_law_118 rfl rfl ?_
    refine m_callS (pc' := 122) (A := [.ref 0]) (rest := []) cl_L_law_102 dL_law_119 rfl rfl (Nat.le_of_ble_eq_true rfl) ⟨Nat.le_of_ble_eq_true rfl, Nat.le_of_ble_eq_true rfl⟩ rfl rfl ?_
    refine lw_digest ce5 (O_act (O_undo hI1.1)) (fun e6 ce6 => ?_)
    show mM G (mLw nm) 122 [some (.double 0), some (.ref 0), some (.int (nI t)), some (.int y), some (.long (dgF A)), none, some (.int ((actL A y).1)), some (.int 0), some (.long (dgF ((actL A y).2))), none, none, none, none] [.long (dgF ((actL ((opUndo ((actL A y).2)).2) y).2))] S1 e6 (214, 16694) Q
    refine m_lload (pc' := 124) dL_law_122 rfl rfl rfl ?_
    refine m_lcmp (pc' := 125) dL_law_124 rfl ?_
    rw [show (lg_cmp (dgF ((actL ((opUndo ((actL A y).2)).2) y).2)) (dgF ((actL A y).2))) = 0 from by rw [hd3]; exact lg_self _]
    refine m_if_eq (tgt := 130) (pc' := 128) dL_law_125 (by decide) rfl (fun h125 => ?_) (fun h125 => absurd h125 (by decide))
    refine m_drop 3 (lo' := [some (.double 0), some (.ref 0), some (.int (nI t)), none, some (.long (dgF A)), none, some (.int ((actL A y).1)), some (.int 0), some (.long (dgF ((actL A y).2))), none, none, none, none]) rfl ?_
    refine m_drop 4 (lo' := [some (.double 0), some (.ref 0), some (.int (nI t)), none, none, none, some (.int ((actL A y).1)), some (.int 0), some (.long (dgF ((actL A y).2))), none, none, none, none]) rfl ?_
    refine m_drop 6 (lo' := [some (.double 0), some (.ref 0), some (.int (nI t)), none, none, none, none, some (.int 0), some (.long (dgF ((actL A y).2))), none, none, none, none]) rfl ?_
    refine m_drop 7 (lo' := [some (.double 0), some (.ref 0), some (.int (nI t)), none, none, none, none, none, some (.long (dgF ((actL A y).2))), none, none, none, none]) rfl ?_
    refine m_drop 8 (lo' := [some (.double 0), some (.ref 0), some (.int (nI t)), none, none, none, none, none, none, none, none, none, none]) rfl ?_
    exact lt_tail ce6 hI3 hT hN
set_option maxHeartbeats 4000000 in
set_option maxRecDepth 100000 in
theorem lt_end {A : AS} {T : Nat} (hC : CR d A) (hI : tp_I A T) (hQ : ∀ d', Q (some (.int 1)) S1 d') : mM G (mLw nm) 283 [some (.double 0), some (.ref 0), none, none, none, none, none, none, none, none, none, none, none] [] S1 d (214, 16694) Q := by
  refine m_aload_n (pc' := 284) dL_law_283 rfl rfl ?_
  refine m_callS (pc' := 287) (A := [.ref 0]) (rest := []) cl_L_law_102 dL_law_284 rfl rfl (Nat.le_of_ble_eq_true rfl) ⟨Nat.le_of_ble_eq_true rfl, Nat.le_of_ble_eq_true rfl⟩ rfl rfl ?_
  refine lw_digest hC hI.1 (fun e1 ce1 => ?_)
  show mM G (mLw nm) 287 [some (.double 0), some (.ref 0), none, none, none, none, none, none, none, none, none, none, none] [.long (dgF A)] S1 e1 (214, 16694) Q
  refine m_lstore_n (pc' := 288) dL_law_287 (Nat.le_of_ble_eq_true rfl) rfl rfl ?_
  refine m_aload_n (pc' := 289) dL_law_288 rfl rfl ?_
  refine m_iconst (pc' := 290) (v := 0) dL_law_289 (by decide) rfl ?_
  refine m_iconst (pc' := 291) (v := 0) dL_law_290 (by decide) rfl ?_
  refine m_iconst (pc' := 292) (v := 1) dL_law_291 (by decide) rfl ?_
  refine m_iconst (pc' := 293) (v := 1) dL_law_292 (by decide) rfl ?_
  refine m_iconst (pc' := 294) (v := 0) dL_law_293 (by decide) rfl ?_
  refine m_callV (pc' := 297) (A := [.int 0, .int 0, .int 1, .int 1, .int 0]) (rest := []) (b := 0) cl_L_law_39 dL_law_294 rfl rfl (Nat.le_of_ble_eq_true rfl) ⟨Nat.le_of_ble_eq_true rfl, Nat.le_of_ble_eq_true rfl⟩ (by decide) rfl rfl rfl rfl ?_
  refine k_setSource ce1 hI.1 (fun e2 fe2 ce2 => ?_)
  show mM G (mLw nm) 297 [some (.double 0), some (.ref 0), some (.long (dgF A)), none, none, none, none, none, none, none, none, none, none] [.int ((opSetSource A 0 0 1 1 0).1)] S1 e2 (214, 16694) Q
  rw [show (opSetSource A 0 0 1 1 0).2 = A from congrArg Prod.snd (tp_end A).1] at ce2
  rw [show ((opSetSource A 0 0 1 1 0).1) = (-10000001) from congrArg Prod.fst (tp_end A).1]
  refine m_ldc (pc' := 299) dL_law_297 kc_L_law_110 rfl ?_
  refine m_icmp_ne (tgt := 386) (pc' := 302) dL_law_299 (by decide) rfl (fun h299 => absurd h299 (by decide)) (fun h299 => ?_)
  refine m_aload_n (pc' := 303) dL_law_302 rfl rfl ?_
  refine m_iconst (pc' := 304) (v := 0) dL_law_303 (by decide) rfl ?_
  refine m_iconst (pc' := 305) (v := 2) dL_law_304 (by decide) rfl ?_
  refine m_iconst (pc' := 306) (v := 1) dL_law_305 (by decide) rfl ?_
  refine m_iconst (pc' := 307) (v := 1) dL_law_306 (by decide) rfl ?_
  refine m_iconst (pc' := 308) (v := 1) dL_law_307 (by decide) rfl ?_
  refine m_callV (pc' := 311) (A := [.int 0, .int 2, .int 1, .int 1, .int 1]) (rest := []) (b := 0) cl_L_law_39 dL_law_308 rfl rfl (Nat.le_of_ble_eq_true rfl) ⟨Nat.le_of_ble_eq_true rfl, Nat.le_of_ble_eq_true rfl⟩ (by decide) rfl rfl rfl rfl ?_
  refine k_setSource ce2 hI.1 (fun e3 fe3 ce3 => ?_)
  show mM G (mLw nm) 311 [some (.double 0), some (.ref 0), some (.long (dgF A)), none, none, none, none, none, none, none, none, none, none] [.int ((opSetSource A 0 2 1 1 1).1)] S1 e3 (214, 16694) Q
  rw [show (opSetSource A 0 2 1 1 1).2 = A from congrArg Prod.snd (tp_end A).2.1] at ce3
  rw [show ((opSetSource A 0 2 1 1 1).1) = (-10000001) from congrArg Prod.fst (tp_end A).2.1]
  refine m_ldc (pc' := 313) dL_law_311 kc_L_law_110 rfl ?_
  refine m_icmp_ne (tgt := 386) (pc' := 316) dL_law_313 (by decide) rfl (fun h313 => absurd h313 (by decide)) (fun h313 => ?_)
  refine m_aload_n (pc' := 317) dL_law_316 rfl rfl ?_
  refine m_iconst (pc' := 318) (v := 0) dL_law_317 (by decide) rfl ?_
  refine m_iconst (pc' := 319) (v := 3) dL_law_318 (by decide) rfl ?_
  refine m_iconst (pc' := 320) (v := 0) dL_law_319 (by decide) rfl ?_
  refine m_iconst (pc' := 321) (v := 0) dL_law_320 (by decide) rfl ?_
  refine m_iconst (pc' := 322) (v := 0) dL_law_321 (by decide) rfl ?_
  refine m_callV (pc' := 325) (A := [.int 0, .int 3, .int 0, .int 0, .int 0]) (rest := []) (b := 0) cl_L_law_39 dL_law_322 rfl rfl (Nat.le_of_ble_eq_true rfl) ⟨Nat.le_of_ble_eq_true rfl, Nat.le_of_ble_eq_true rfl⟩ (by decide) rfl rfl rfl rfl ?_
  refine k_setSource ce3 hI.1 (fun e4 fe4 ce4 => ?_)
  show mM G (mLw nm) 325 [some (.double 0), some (.ref 0), some (.long (dgF A)), none, none, none, none, none, none, none, none, none, none] [.int ((opSetSource A 0 3 0 0 0).1)] S1 e4 (214, 16694) Q
  rw [show (opSetSource A 0 3 0 0 0).2 = A from congrArg Prod.snd (tp_end A).2.2.1] at ce4
  rw [show ((opSetSource A 0 3 0 0 0).1) = (-10000001) from congrArg Prod.fst (tp_end A).2.2.1]
  refine m_ldc (pc' := 327) dL_law_325 kc_L_law_110 rfl ?_
  refine m_icmp_ne (tgt := 386) (pc' := 330) dL_law_327 (by decide) rfl (fun h327 => absurd h327 (by decide)) (fun h327 => ?_)
  refine m_aload_n (pc' := 331) dL_law_330 rfl rfl ?_
  refine m_iconst (pc' := 332) (v := 1) dL_law_331 (by decide) rfl ?_
  refine m_sipush (pc' := 335) (v := 899) dL_law_332 (by decide) rfl ?_
  refine m_callV (pc' := 338) (A := [.int 1, .int 899]) (rest := []) (b := 0) cl_L_law_46 dL_law_335 rfl rfl (Nat.le_of_ble_eq_true rfl) ⟨Nat.le_of_ble_eq_true rfl, Nat.le_of_ble_eq_true rfl⟩ (by decide) rfl rfl rfl rfl ?_
  refine k_set ce4 hI.1 (fun e5 fe5 ce5 => ?_)
  show mM G (mLw nm) 338 [some (.double 0), some (.ref 0), some (.long (dgF A)), none, none, none, none, none, none, none, none, none, none] [.int ((opSet A 1 899).1)] S1 e5 (214, 16694) Q
  rw [show (opSet A 1 899).2 = A from congrArg Prod.snd (tp_end A).2.2.2.1] at ce5
  rw [show ((opSet A 1 899).1) = (-10000001) from congrArg Prod.fst (tp_end A).2.2.2.1]
  refine m_ldc (pc' := 340) dL_law_338 kc_L_law_110 rfl ?_
  refine m_icmp_ne (tgt := 386) (pc' := 343) dL_law_340 (by decide) rfl (fun h340 => absurd h340 (by decide)) (fun h340 => ?_)
  refine m_aload_n (pc' := 344) dL_law_343 rfl rfl ?_
  refine m_bipush (pc' := 346) (v := 10) dL_law_344 (by decide) rfl ?_
  refine m_iconst (pc' := 347) (v := 0) dL_law_346 (by decide) rfl ?_
  refine m_iconst (pc' := 348) (v := 0) dL_law_347 (by decide) rfl ?_
  refine m_callV (pc' := 351) (A := [.int 10, .int 0, .int 0]) (rest := []) (b := 0) cl_L_law_49 dL_law_348 rfl rfl (Nat.le_of_ble_eq_true rfl) ⟨Nat.le_of_ble_eq_true rfl, Nat.le_of_ble_eq_true rfl⟩ (by decide) rfl rfl rfl rfl ?_
  refine k_addEntry ce5 hI.1 (fun e6 fe6 ce6 => ?_)
  show mM G (mLw nm) 351 [some (.double 0), some (.ref 0), some (.long (dgF A)), none, none, none, none, none, none, none, none, none, none] [.int ((opAdd A 10 0 0).1)] S1 e6 (214, 16694) Q
  rw [show (opAdd A 10 0 0).2 = A from congrArg Prod.snd (tp_end A).2.2.2.2.1] at ce6
  rw [show ((opAdd A 10 0 0).1) = (-10000001) from congrArg Prod.fst (tp_end A).2.2.2.2.1]
  refine m_ldc (pc' := 353) dL_law_351 kc_L_law_110 rfl ?_
  refine m_icmp_ne (tgt := 386) (pc' := 356) dL_law_353 (by decide) rfl (fun h353 => absurd h353 (by decide)) (fun h353 => ?_)
  refine m_aload_n (pc' := 357) dL_law_356 rfl rfl ?_
  refine m_bipush (pc' := 359) (v := 21) dL_law_357 (by decide) rfl ?_
  refine m_callV (pc' := 362) (A := [.int 21]) (rest := []) (b := 0) cl_L_law_71 dL_law_359 rfl rfl (Nat.le_of_ble_eq_true rfl) ⟨Nat.le_of_ble_eq_true rfl, Nat.le_of_ble_eq_true rfl⟩ (by decide) rfl rfl rfl rfl ?_
  refine k_scan ce6 hI.1 (fun e7 fe7 ce7 => ?_)
  show mM G (mLw nm) 362 [some (.double 0), some (.ref 0), some (.long (dgF A)), none, none, none, none, none, none, none, none, none, none] [.int ((opScan A 21).1)] S1 e7 (214, 16694) Q
  rw [show (opScan A 21).2 = A from congrArg Prod.snd (tp_end A).2.2.2.2.2.1] at ce7
  rw [show ((opScan A 21).1) = (-10000001) from congrArg Prod.fst (tp_end A).2.2.2.2.2.1]
  refine m_ldc (pc' := 364) dL_law_362 kc_L_law_110 rfl ?_
  refine m_icmp_ne (tgt := 386) (pc' := 367) dL_law_364 (by decide) rfl (fun h364 => absurd h364 (by decide)) (fun h364 => ?_)
  refine m_aload_n (pc' := 368) dL_law_367 rfl rfl ?_
  refine m_iconst (pc' := 369) (v := 0) dL_law_368 (by decide) rfl ?_
  refine m_callV (pc' := 372) (A := [.int 0]) (rest := []) (b := 0) cl_L_law_62 dL_law_369 rfl rfl (Nat.le_of_ble_eq_true rfl) ⟨Nat.le_of_ble_eq_true rfl, Nat.le_of_ble_eq_true rfl⟩ (by decide) rfl rfl rfl rfl ?_
  refine k_pass ce7 hI.1 (fun e8 fe8 ce8 => ?_)
  show mM G (mLw nm) 372 [some (.double 0), some (.ref 0), some (.long (dgF A)), none, none, none, none, none, none, none, none, none, none] [.int ((opPass A 0).1)] S1 e8 (214, 16694) Q
  rw [show (opPass A 0).2 = A from congrArg Prod.snd (tp_end A).2.2.2.2.2.2] at ce8
  rw [show ((opPass A 0).1) = (-10000001) from congrArg Prod.fst (tp_end A).2.2.2.2.2.2]
  refine m_ldc (pc' := 374) dL_law_372 kc_L_law_110 rfl ?_
  refine m_icmp_ne (tgt := 386) (pc' := 377) dL_law_374 (by decide) rfl (fun h374 => absurd h374 (by decide)) (fun h374 => ?_)
  refine m_aload_n (pc' := 378) dL_law_377 rfl rfl ?_
  refine m_callS (pc' := 381) (A := [.ref 0]) (rest := []) cl_L_law_102 dL_law_378 rfl rfl (Nat.le_of_ble_eq_true rfl) ⟨Nat.le_of_ble_eq_true rfl, Nat.le_of_ble_eq_true rfl⟩ rfl rfl ?_
  refine lw_digest ce8 hI.1 (fun e9 ce9 => ?_)
  show mM G (mLw nm) 381 [some (.double 0), some (.ref 0), some (.long (dgF A)), none, none, none, none, none, none, none, none, none, none] [.long (dgF A)] S1 e9 (214, 16694) Q
  refine m_lload_n (pc' := 382) dL_law_381 rfl rfl rfl ?_
  refine m_lcmp (pc' := 383) dL_law_382 rfl ?_
  rw [show (lg_cmp (dgF A) (dgF A)) = 0 from lg_self _]
  refine m_if_eq (tgt := 388) (pc' := 386) dL_law_383 (by decide) rfl (fun h383 => ?_) (fun h383 => absurd h383 (by decide))
  refine m_aload_n (pc' := 389) dL_law_388 rfl rfl ?_
  refine m_callV (pc' := 392) (A := []) (rest := []) (b := 0) cl_L_law_118 dL_law_389 rfl rfl (Nat.le_of_ble_eq_true rfl) ⟨Nat.le_of_ble_eq_true rfl, Nat.le_of_ble_eq_true rfl⟩ (by decide) rfl rfl rfl rfl ?_
  refine k_load ce9 hI.1 (fun e10 fe10 ce10 => ?_)
  show mM G (mLw nm) 392 [some (.double 0), some (.ref 0), some (.long (dgF A)), none, none, none, none, none, none, none, none, none, none] [.int ((opLoad A).1)] S1 e10 (214, 16694) Q
  rw [show ((opLoad A).1) = 0 from (tp_load hI.2.1).1]
  refine m_if_ne (tgt := 429) (pc' := 395) dL_law_392 (by decide) rfl (fun h392 => absurd h392 (by decide)) (fun h392 => ?_)
  refine m_aload_n (pc' := 396) dL_law_395 rfl rfl ?_
  refine m_callS (pc' := 399) (A := [.ref 0]) (rest := []) cl_L_law_102 dL_law_396 rfl rfl (Nat.le_of_ble_eq_true rfl) ⟨Nat.le_of_ble_eq_true rfl, Nat.le_of_ble_eq_true rfl⟩ rfl rfl ?_
  refine lw_digest ce10 (O_load hI.1) (fun e11 ce11 => ?_)
  show mM G (mLw nm) 399 [some (.double 0), some (.ref 0), some (.long (dgF A)), none, none, none, none, none, none, none, none, none, none] [.long (dgF ((opLoad A).2))] S1 e11 (214, 16694) Q
  refine m_lload_n (pc' := 400) dL_law_399 rfl rfl rfl ?_
  refine m_lcmp (pc' := 401) dL_law_400 rfl ?_
  rw [show (lg_cmp (dgF ((opLoad A).2)) (dgF A)) = 0 from by rw [(tp_load hI.2.1).2]; exact lg_self _]
  refine m_if_ne (tgt := 429) (pc' := 404) dL_law_401 (by decide) rfl (fun h401 => absurd h401 (by decide)) (fun h401 => ?_)
  refine m_aload_n (pc' := 405) dL_law_404 rfl rfl ?_
  refine m_bipush (pc' := 407) (v := 13) dL_law_405 (by decide) rfl ?_
  refine m_callV (pc' := 410) (A := [.int 13]) (rest := []) (b := 0) cl_L_law_12 dL_law_407 rfl rfl (Nat.le_of_ble_eq_true rfl) ⟨Nat.le_of_ble_eq_true rfl, Nat.le_of_ble_eq_true rfl⟩ (by decide) rfl rfl rfl rfl ?_
  refine k_count ce11 (O_load hI.1) (fun e12 fe12 ce12 => ?_)
  show mM G (mLw nm) 410 [some (.double 0), some (.ref 0), some (.long (dgF A)), none, none, none, none, none, none, none, none, none, none] [.int (vCount ((opLoad A).2) 13)] S1 e12 (214, 16694) Q
  rw [show (vCount ((opLoad A).2) 13) = (-10000001) from rfl]
  refine m_ldc (pc' := 412) dL_law_410 kc_L_law_110 rfl ?_
  refine m_icmp_ne (tgt := 429) (pc' := 415) dL_law_412 (by decide) rfl (fun h412 => absurd h412 (by decide)) (fun h412 => ?_)
  refine m_aload_n (pc' := 416) dL_law_415 rfl rfl ?_
  refine m_iconst (pc' := 417) (v := 3) dL_law_416 (by decide) rfl ?_
  refine m_callV (pc' := 420) (A := [.int 3]) (rest := []) (b := 0) cl_L_law_31 dL_law_417 rfl rfl (Nat.le_of_ble_eq_true rfl) ⟨Nat.le_of_ble_eq_true rfl, Nat.le_of_ble_eq_true rfl⟩ (by decide) rfl rfl rfl rfl ?_
  refine k_held ce12 (fun e13 fe13 ce13 => ?_)
  show mM G (mLw nm) 420 [some (.double 0), some (.ref 0), some (.long (dgF A)), none, none, none, none, none, none, none, none, none, none] [.int (vHeld ((opLoad A).2) 3)] S1 e13 (214, 16694) Q
  rw [show (vHeld ((opLoad A).2) 3) = (-10000001) from rfl]
  refine m_ldc (pc' := 422) dL_law_420 kc_L_law_110 rfl ?_
  refine m_icmp_ne (tgt := 429) (pc' := 425) dL_law_422 (by decide) rfl (fun h422 => absurd h422 (by decide)) (fun h422 => ?_)
  refine m_iconst (pc' := 426) (v := 1) dL_law_425 (by decide) rfl ?_
  refine m_goto (tgt := 430) dL_law_426 (by decide) ?_
  refine m_iret dL_law_430 rfl (by decide) ⟨Nat.le_of_ble_eq_true rfl, Nat.le_of_ble_eq_true rfl⟩ ?_
  exact hQ _
set_option maxHeartbeats 4000000 in
set_option maxRecDepth 100000 in
theorem lw_loop (hS : SCR G L xs) (hL31 : L < 2 ^ 31) (hQ : ∀ d', Q (some (.int 1)) S1 d') : ∀ (n0 : Nat) (t : Nat) (A : AS) (d1 : Dt) (_ : t + n0 = 17) (hC : CR d1 A) (hI : tp_I A (512 * t)), mM G (mLw nm) 10 [some (.double 0), some (.ref 0), some (.int (nI t)), none, none, none, none, none, none, none, none, none, none] [] S1 d1 (214, 16694) Q := by
  intro n0
  induction n0 with
  | zero =>
    intro t A d1 hk hC hI
    refine m_iload_n (pc' := 11) dL_law_10 rfl rfl ?_
    refine m_bipush (pc' := 13) (v := 17) dL_law_11 (by decide) rfl ?_
    refine m_icmp_ge (tgt := 283) (pc' := 16) dL_law_13 (by decide) rfl (fun h13 => ?_) (fun h13 => (h13 (nI_le (a := 17) (by omega) (by omega))).elim)
    refine m_drop 2 (lo' := [some (.double 0), some (.ref 0), none, none, none, none, none, none, none, none, none, none, none]) rfl ?_
    exact lt_end hC hI hQ
  | succ n0 ih =>
    intro t A d1 hk hC hI
    have hT : 512 * t + 384 ≤ 9999 := by omega
    have B : ∀ (A2 : AS) (d2 : Dt) (C2 : CR d2 A2) (I2 : tp_I A2 (512 * t + 512)), mM G (mLw nm) 277 [some (.double 0), some (.ref 0), some (.int (nI t)), none, none, none, none, none, none, none, none, none, none] [] S1 d2 (214, 16694) Q := by
      intro A2 d2 C2 I2
      refine m_iinc (pc' := 280) dL_law_277 rfl (Nat.le_of_ble_eq_true rfl) (v := nI (t + 1)) (nI_1 t) rfl rfl ?_
      refine m_goto (tgt := 10) dL_law_280 (by decide) ?_
      exact ih (t + 1) A2 d2 (by omega) C2 (by rw [Nat.mul_succ]; exact I2)
    refine m_iload_n (pc' := 11) dL_law_10 rfl rfl ?_
    refine m_bipush (pc' := 13) (v := 17) dL_law_11 (by decide) rfl ?_
    refine m_icmp_ge (tgt := 283) (pc' := 16) dL_law_13 (by decide) rfl (fun h13 => absurd h13 (nI_ge (b := 17) (by omega) (by omega))) (fun h13 => ?_)
    refine m_xload_n (pc' := 17) dL_law_16 rfl rfl ?_
    refine m_iload_n (pc' := 18) dL_law_17 rfl rfl ?_
    refine m_callS (pc' := 21) (A := [.double 0, .int (nI t)]) (rest := []) cl_L_law_98 dL_law_18 rfl rfl (Nat.le_of_ble_eq_true rfl) ⟨Nat.le_of_ble_eq_true rfl, Nat.le_of_ble_eq_true rfl⟩ rfl rfl ?_
    refine lw_cell hS hL31 (by omega) (fun y => ?_)
    show mM G (mLw nm) 21 [some (.double 0), some (.ref 0), some (.int (nI t)), none, none, none, none, none, none, none, none, none, none] [.int y] S1 d1 (214, 16694) Q
    refine m_istore_n (pc' := 22) dL_law_21 (Nat.le_of_ble_eq_true rfl) rfl rfl ?_
    refine m_aload_n (pc' := 23) dL_law_22 rfl rfl ?_
    refine m_callS (pc' := 26) (A := [.ref 0]) (rest := []) cl_L_law_102 dL_law_23 rfl rfl (Nat.le_of_ble_eq_true rfl) ⟨Nat.le_of_ble_eq_true rfl, Nat.le_of_ble_eq_true rfl⟩ rfl rfl ?_
    refine lw_digest hC hI.1 (fun e1 ce1 => ?_)
    show mM G (mLw nm) 26 [some (.double 0), some (.ref 0), some (.int (nI t)), some (.int y), none, none, none, none, none, none, none, none, none] [.long (dgF A)] S1 e1 (214, 16694) Q
    refine m_lstore (pc' := 28) dL_law_26 (Nat.le_of_ble_eq_true rfl) rfl rfl ?_
    refine m_aload_n (pc' := 29) dL_law_28 rfl rfl ?_
    refine m_iload_n (pc' := 30) dL_law_29 rfl rfl ?_
    refine m_callS (pc' := 33) (A := [.ref 0, .int y]) (rest := []) cl_L_law_106 dL_law_30 rfl rfl (Nat.le_of_ble_eq_true rfl) ⟨Nat.le_of_ble_eq_true rfl, Nat.le_of_ble_eq_true rfl⟩ rfl rfl ?_
    refine lw_act ce1 hI.1 (fun e2 ce2 => ?_)
    show mM G (mLw nm) 33 [some (.double 0), some (.ref 0), some (.int (nI t)), some (.int y), some (.long (dgF A)), none, none, none, none, none, none, none, none] [.int ((actL A y).1)] S1 e2 (214, 16694) Q
    refine m_istore (pc' := 35) dL_law_33 (Nat.le_of_ble_eq_true rfl) rfl rfl ?_
    refine m_iload (pc' := 37) dL_law_35 rfl rfl ?_
    refine m_ldc (pc' := 39) dL_law_37 kc_L_law_110 rfl ?_
    refine m_icmp_gt (tgt := 46) (pc' := 42) dL_law_39 (by decide) rfl (fun h39 => ?_) (fun h39 => ?_)
    · skip
      exact lt_good ce2 hI hT (Int32.not_le.mpr h39) (by omega) (fun d2 A2 C2 I2 => B _ d2 C2 (tp_I_mono (by omega) I2))
    · skip
      have eA : (actL A y).2 = A := ((tp_turn y hI hT).resolve_right (fun z => z.1 (Int32.not_lt.mp h39))).2
      rw [eA] at ce2
      exact lt_bad ce2 hI (by omega) (fun d2 A2 C2 I2 => B _ d2 C2 (tp_I_mono (by omega) I2))
/-- nothing is there at the law's entry -/
def S0 : Sh := (0, fun _ => 0, fun _ => 0, fun _ _ => none, fun _ => 0)
def D0 : Dt := (fun _ _ => 0, fun _ _ => 0)
set_option maxHeartbeats 4000000 in
set_option maxRecDepth 100000 in
theorem lw_ok (hS : SCR G L xs) (hL31 : L < 2 ^ 31) : mM G (mLw nm) 0 [some (.double 0), none, none, none, none, none, none, none, none, none, none, none, none] [] S0 D0 (0, 0) (fun v _ _ => v = some (.int 1)) := by
  have eV0 : Vw S0 D0 = ov (Vw S0 D0) 0 0 (fun _ => fsh 0 0) := ov_none
  refine z_new (a := 0) (n := 0) (pc' := 3) (u' := (1, 6)) fn_L_law_13 dL_law_0 ⟨Nat.le_of_ble_eq_true rfl, Nat.le_of_ble_eq_true rfl⟩ rfl rfl rfl eV0 (fun s1 d1 e1 w1 => ?_)
  have v1 : Vw s1 d1 = ov (Vw S0 D0) 0 (0 + 1) bL0 := w1
  refine m_dup (pc' := 4) dL_law_3 rfl ?_
  refine m_callI (pc' := 7) (A := []) (rest := [.ref (0 + 0)]) (b := 0 + 0) (u' := (214, 16694)) cl_L_law_97 dL_law_4 rfl rfl (Nat.le_of_ble_eq_true rfl) ⟨Nat.le_of_ble_eq_true rfl, Nat.le_of_ble_eq_true rfl⟩ rfl rfl ?_
  refine c_iX10 (a := 0 + 0) (e1.trans rfl) ((z_at (m := 0) v1 (by decide)).trans rfl) (fun s2 d2 e2' w2' => ?_)
  have e2 : s2.1 = 0 + 214 := e2'
  have v2 : Vw s2 d2 = ov (Vw S0 D0) 0 214 bLw := by rw [w2', v1]; exact ov_ov (by decide)
  show mM G (mLw nm) 7 [some (.double 0), none, none, none, none, none, none, none, none, none, none, none, none] [.ref 0] s2 d2 (214, 16694) _
  refine m_S1 e2 v2 ?_
  refine m_astore_n (pc' := 8) dL_law_7 (Nat.le_of_ble_eq_true rfl) rfl rfl ?_
  refine m_iconst (pc' := 9) (v := 0) dL_law_8 (by decide) rfl ?_
  refine m_istore_n (pc' := 10) dL_law_9 (Nat.le_of_ble_eq_true rfl) rfl rfl ?_
  exact lw_loop hS hL31 (fun d' => rfl) 17 0 A0 d2 (by omega) (CR_0 v2) I_0
end LAWW
