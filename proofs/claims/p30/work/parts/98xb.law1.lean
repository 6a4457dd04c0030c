/-! THE LAW'S OWN METHODS (1): cell, low, size, digest -/
section LAWM
variable {G : GP} {Q : Option Value → Sh → Dt → Prop} {d : Dt} {L : Nat} {xs : Nat → Int32}
set_option maxHeartbeats 4000000 in
set_option maxRecDepth 100000 in
theorem lw_cell {t : Nat} (hS : SCR G L xs) (hL31 : L < 2 ^ 31) (ht : t < 2 ^ 31) (hQ : ∀ y, Q (some (.int y)) S1 d) : mC G mL_cell [.double 0, .int (nI t)] S1 d Q := by
  refine mC_of (by decide +kernel) ⟨_, rfl⟩ (Nat.le_of_ble_eq_true rfl) ?_
  show mM G mL_cell 0 [some (.double 0), some (.int (nI t))] [] S1 d (0, 0) Q
  refine m_iload_n (pc' := 1) dL_cell_0 rfl rfl ?_
  refine m_xload_n (pc' := 2) dL_cell_1 rfl rfl ?_
  refine m_salen (pc' := 3) (v := nI L) hS dL_cell_2 rfl rfl ?_
  refine m_icmp_ge (tgt := 12) (pc' := 6) dL_cell_3 (by decide) rfl (fun h3 => ?_) (fun h3 => ?_)
  · skip
    refine m_sipush (pc' := 15) (v := 7919) dL_cell_12 (by decide) rfl ?_
    refine m_iload_n (pc' := 16) dL_cell_15 rfl rfl ?_
    refine m_iconst (pc' := 17) (v := 3) dL_cell_16 (by decide) rfl ?_
    refine m_iadd (pc' := 18) dL_cell_17 rfl ?_
    refine m_imul (pc' := 19) dL_cell_18 rfl ?_
    refine m_iload_n (pc' := 20) dL_cell_19 rfl rfl ?_
    refine m_bipush (pc' := 22) (v := 11) dL_cell_20 (by decide) rfl ?_
    refine m_iadd (pc' := 23) dL_cell_22 rfl ?_
    refine m_imul (pc' := 24) dL_cell_23 rfl ?_
    refine m_iret dL_cell_24 rfl rfl ⟨by decide, by decide⟩ ?_
    exact hQ _
  · skip
    refine m_xload_n (pc' := 7) dL_cell_6 rfl rfl ?_
    refine m_iload_n (pc' := 8) dL_cell_7 rfl rfl ?_
    refine m_siald (pc' := 9) (j := t) hS dL_cell_8 rfl (Nat.not_le.mp (fun z => h3 (nI_le z ht))) hL31 rfl ?_
    refine m_goto (tgt := 24) dL_cell_9 (by decide) ?_
    refine m_iret dL_cell_24 rfl rfl ⟨by decide, by decide⟩ ?_
    exact hQ _
set_option maxHeartbeats 4000000 in
set_option maxRecDepth 100000 in
theorem lw_low {v n : Int32} (hn : ¬ n = 0) (hQ : Q (some (.int (lo3 v n))) S1 d) : mC G mL_low [.int v, .int n] S1 d Q := by
  refine mC_of (by decide +kernel) ⟨_, rfl⟩ (Nat.le_of_ble_eq_true rfl) ?_
  show mM G mL_low 0 [some (.int v), some (.int n)] [] S1 d (0, 0) Q
  refine m_iload_n (pc' := 1) dL_low_0 rfl rfl ?_
  refine m_ldc (pc' := 3) dL_low_1 kc_L_low_7 rfl ?_
  refine m_iand (pc' := 4) dL_low_3 rfl ?_
  refine m_iload_n (pc' := 5) dL_low_4 rfl rfl ?_
  refine m_irem (pc' := 6) dL_low_5 hn rfl ?_
  refine m_iret dL_low_6 rfl rfl ⟨by decide, by decide⟩ ?_
  exact hQ
set_option maxHeartbeats 4000000 in
set_option maxRecDepth 100000 in
theorem lw_size {v : Int32} (hQ : Q (some (.int (siz v))) S1 d) : mC G mL_size [.int v] S1 d Q := by
  refine mC_of (by decide +kernel) ⟨_, rfl⟩ (Nat.le_of_ble_eq_true rfl) ?_
  show mM G mL_size 0 [some (.int v)] [] S1 d (0, 0) Q
  refine m_iload_n (pc' := 1) dL_size_0 rfl rfl ?_
  refine m_if_ge (tgt := 9) (pc' := 4) dL_size_1 (by decide) rfl (fun h1 => ?_) (fun h1 => ?_)
  · skip
    refine m_iload_n (pc' := 10) dL_size_9 rfl rfl ?_
    refine m_iret dL_size_10 rfl rfl ⟨by decide, by decide⟩ ?_
    exact q_i hQ (if_neg (Int32.not_lt.mpr h1)).symm
  · skip
    refine m_iload_n (pc' := 5) dL_size_4 rfl rfl ?_
    refine m_ineg (pc' := 6) dL_size_5 rfl ?_
    refine m_goto (tgt := 10) dL_size_6 (by decide) ?_
    refine m_iret dL_size_10 rfl rfl ⟨by decide, by decide⟩ ?_
    exact q_i hQ (if_pos (Int32.not_le.mp h1)).symm
set_option maxHeartbeats 4000000 in
set_option maxRecDepth 100000 in
theorem lw_digest {A : AS} (hC : CR d A) (hO : OK A) (hQ : ∀ d', CR d' A → Q (some (.long (dgF A))) S1 d') : mC G mL_digest [.ref 0] S1 d Q := by
  have J5 : ∀ (n0 : Nat) (k : Nat) (d1 : Dt) (_ : k + n0 = 7) (hC1 : CR d1 A), mM G mL_digest 180 [some (.ref 0), some (.long (dg5 A (dg4 A (dg3 A (dg2 A (dg1 A 13) 8) 16) 32) k)), none, some (.int (nI k)), none] [] S1 d1 (0, 0) Q := by
    intro n0
    induction n0 with
    | zero =>
      intro k d1 hkk hC1
      refine m_iload_n (pc' := 181) dL_digest_180 rfl rfl ?_
      refine m_bipush (pc' := 183) (v := 7) dL_digest_181 (by decide) rfl ?_
      refine m_icmp_ge (tgt := 205) (pc' := 186) dL_digest_183 (by decide) rfl (fun h183 => ?_) (fun h183 => (h183 (nI_le (a := 7) (by omega) (by omega))).elim)
      refine m_ldc2 (pc' := 208) dL_digest_205 kc_L_digest_10 rfl ?_
      refine m_lload_n (pc' := 209) dL_digest_208 rfl rfl rfl ?_
      refine m_lmul (pc' := 210) dL_digest_209 rfl ?_
      refine m_aload_n (pc' := 211) dL_digest_210 rfl rfl ?_
      refine m_iconst (pc' := 212) (v := 2) dL_digest_211 (by decide) rfl ?_
      refine m_callV (pc' := 215) (A := [.int 2]) (rest := [.long (31 * (dg5 A (dg4 A (dg3 A (dg2 A (dg1 A 13) 8) 16) 32) k))]) (b := 0) cl_L_digest_31 dL_digest_212 rfl rfl (Nat.le_of_ble_eq_true rfl) ⟨by decide, by decide⟩ (by decide) rfl rfl rfl rfl ?_
      refine k_held hC1 (fun e1 fe1 ce1 => ?_)
      show mM G mL_digest 215 [some (.ref 0), some (.long (dg5 A (dg4 A (dg3 A (dg2 A (dg1 A 13) 8) 16) 32) k)), none, some (.int (nI k)), none] [.int (vHeld A 2), .long (31 * (dg5 A (dg4 A (dg3 A (dg2 A (dg1 A 13) 8) 16) 32) k))] S1 e1 (0, 0) Q
      refine m_i2l (pc' := 216) dL_digest_215 rfl ?_
      refine m_ladd (pc' := 217) dL_digest_216 rfl ?_
      refine m_lret dL_digest_217 rfl ⟨by decide, by decide⟩ ?_
      obtain rfl : k = 7 := by omega
      exact hQ _ ce1
    | succ n0 ih =>
      intro k d1 hkk hC1
      refine m_iload_n (pc' := 181) dL_digest_180 rfl rfl ?_
      refine m_bipush (pc' := 183) (v := 7) dL_digest_181 (by decide) rfl ?_
      refine m_icmp_ge (tgt := 205) (pc' := 186) dL_digest_183 (by decide) rfl (fun h183 => absurd h183 (nI_ge (b := 7) (by omega) (by omega))) (fun h183 => ?_)
      refine m_ldc2 (pc' := 189) dL_digest_186 kc_L_digest_10 rfl ?_
      refine m_lload_n (pc' := 190) dL_digest_189 rfl rfl rfl ?_
      refine m_lmul (pc' := 191) dL_digest_190 rfl ?_
      refine m_aload_n (pc' := 192) dL_digest_191 rfl rfl ?_
      refine m_iload_n (pc' := 193) dL_digest_192 rfl rfl ?_
      refine m_callV (pc' := 196) (A := [.int (nI k)]) (rest := [.long (31 * (dg5 A (dg4 A (dg3 A (dg2 A (dg1 A 13) 8) 16) 32) k))]) (b := 0) cl_L_digest_28 dL_digest_193 rfl rfl (Nat.le_of_ble_eq_true rfl) ⟨by decide, by decide⟩ (by decide) rfl rfl rfl rfl ?_
      refine k_account hC1 hO (fun e1 fe1 ce1 => ?_)
      show mM G mL_digest 196 [some (.ref 0), some (.long (dg5 A (dg4 A (dg3 A (dg2 A (dg1 A 13) 8) 16) 32) k)), none, some (.int (nI k)), none] [.int (vAccount A (nI k)), .long (31 * (dg5 A (dg4 A (dg3 A (dg2 A (dg1 A 13) 8) 16) 32) k))] S1 e1 (0, 0) Q
      refine m_i2l (pc' := 197) dL_digest_196 rfl ?_
      refine m_ladd (pc' := 198) dL_digest_197 rfl ?_
      refine m_lstore_n (pc' := 199) dL_digest_198 (Nat.le_of_ble_eq_true rfl) rfl rfl ?_
      refine m_iinc (pc' := 202) dL_digest_199 rfl (by decide) (v := nI (k + 1)) (nI_1 k) rfl rfl ?_
      refine m_goto (tgt := 180) dL_digest_202 (by decide) ?_
      exact ih (k + 1) _ (by omega) ce1
  have J4 : ∀ (n0 : Nat) (k : Nat) (d1 : Dt) (_ : k + n0 = 32) (hC1 : CR d1 A), mM G mL_digest 136 [some (.ref 0), some (.long (dg4 A (dg3 A (dg2 A (dg1 A 13) 8) 16) k)), none, some (.int (nI k)), none] [] S1 d1 (0, 0) Q := by
    intro n0
    induction n0 with
    | zero =>
      intro k d1 hkk hC1
      refine m_iload_n (pc' := 137) dL_digest_136 rfl rfl ?_
      refine m_bipush (pc' := 139) (v := 32) dL_digest_137 (by decide) rfl ?_
      refine m_icmp_ge (tgt := 178) (pc' := 142) dL_digest_139 (by decide) rfl (fun h139 => ?_) (fun h139 => (h139 (nI_le (a := 32) (by omega) (by omega))).elim)
      refine m_iconst (pc' := 179) (v := 0) dL_digest_178 (by decide) rfl ?_
      refine m_istore_n (pc' := 180) dL_digest_179 (by decide) rfl rfl ?_
      obtain rfl : k = 32 := by omega
      exact J5 7 0 _ (by omega) hC1
    | succ n0 ih =>
      intro k d1 hkk hC1
      have JI : ∀ (n1 : Nat) (w : Nat) (d1 : Dt) (_ : w + n1 = 5) (hC1 : CR d1 A), mM G mL_digest 145 [some (.ref 0), some (.long (dgs A k (dg4 A (dg3 A (dg2 A (dg1 A 13) 8) 16) k) w)), none, some (.int (nI k)), some (.int (nI w))] [] S1 d1 (0, 0) Q := by
        intro n1
        induction n1 with
        | zero =>
          intro w d1 hkw hC1
          refine m_iload (pc' := 147) dL_digest_145 rfl rfl ?_
          refine m_iconst (pc' := 148) (v := 5) dL_digest_147 (by decide) rfl ?_
          refine m_icmp_ge (tgt := 172) (pc' := 151) dL_digest_148 (by decide) rfl (fun h148 => ?_) (fun h148 => (h148 (nI_le (a := 5) (by omega) (by omega))).elim)
          refine m_iinc (pc' := 175) dL_digest_172 rfl (by decide) (v := nI (k + 1)) (nI_1 k) rfl rfl ?_
          refine m_goto (tgt := 136) dL_digest_175 (by decide) ?_
          refine m_drop 4 (lo' := [some (.ref 0), some (.long (dgs A k (dg4 A (dg3 A (dg2 A (dg1 A 13) 8) 16) k) w)), none, some (.int (nI (k + 1))), none]) rfl ?_
          obtain rfl : w = 5 := by omega
          exact ih (k + 1) _ (by omega) hC1
        | succ n1 ih2 =>
          intro w d1 hkw hC1
          refine m_iload (pc' := 147) dL_digest_145 rfl rfl ?_
          refine m_iconst (pc' := 148) (v := 5) dL_digest_147 (by decide) rfl ?_
          refine m_icmp_ge (tgt := 172) (pc' := 151) dL_digest_148 (by decide) rfl (fun h148 => absurd h148 (nI_ge (b := 5) (by omega) (by omega))) (fun h148 => ?_)
          refine m_ldc2 (pc' := 154) dL_digest_151 kc_L_digest_10 rfl ?_
          refine m_lload_n (pc' := 155) dL_digest_154 rfl rfl rfl ?_
          refine m_lmul (pc' := 156) dL_digest_155 rfl ?_
          refine m_aload_n (pc' := 157) dL_digest_156 rfl rfl ?_
          refine m_iload_n (pc' := 158) dL_digest_157 rfl rfl ?_
          refine m_iload (pc' := 160) dL_digest_158 rfl rfl ?_
          refine m_callV (pc' := 163) (A := [.int (nI k), .int (nI w)]) (rest := [.long (31 * (dgs A k (dg4 A (dg3 A (dg2 A (dg1 A 13) 8) 16) k) w))]) (b := 0) cl_L_digest_25 dL_digest_160 rfl rfl (Nat.le_of_ble_eq_true rfl) ⟨by decide, by decide⟩ (by decide) rfl rfl rfl rfl ?_
          refine k_sample hC1 hO (fun e1 fe1 ce1 => ?_)
          show mM G mL_digest 163 [some (.ref 0), some (.long (dgs A k (dg4 A (dg3 A (dg2 A (dg1 A 13) 8) 16) k) w)), none, some (.int (nI k)), some (.int (nI w))] [.int (vSample A (nI k) (nI w)), .long (31 * (dgs A k (dg4 A (dg3 A (dg2 A (dg1 A 13) 8) 16) k) w))] S1 e1 (0, 0) Q
          refine m_i2l (pc' := 164) dL_digest_163 rfl ?_
          refine m_ladd (pc' := 165) dL_digest_164 rfl ?_
          refine m_lstore_n (pc' := 166) dL_digest_165 (Nat.le_of_ble_eq_true rfl) rfl rfl ?_
          refine m_iinc (pc' := 169) dL_digest_166 rfl (by decide) (v := nI (w + 1)) (nI_1 w) rfl rfl ?_
          refine m_goto (tgt := 145) dL_digest_169 (by decide) ?_
          exact ih2 (w + 1) _ (by omega) ce1
      refine m_iload_n (pc' := 137) dL_digest_136 rfl rfl ?_
      refine m_bipush (pc' := 139) (v := 32) dL_digest_137 (by decide) rfl ?_
      refine m_icmp_ge (tgt := 178) (pc' := 142) dL_digest_139 (by decide) rfl (fun h139 => absurd h139 (nI_ge (b := 32) (by omega) (by omega))) (fun h139 => ?_)
      refine m_iconst (pc' := 143) (v := 0) dL_digest_142 (by decide) rfl ?_
      refine m_istore (pc' := 145) dL_digest_143 (by decide) rfl rfl ?_
      exact JI 5 0 _ (by omega) hC1
  have J3 : ∀ (n0 : Nat) (k : Nat) (d1 : Dt) (_ : k + n0 = 16) (hC1 : CR d1 A), mM G mL_digest 94 [some (.ref 0), some (.long (dg3 A (dg2 A (dg1 A 13) 8) k)), none, some (.int (nI k)), none] [] S1 d1 (0, 0) Q := by
    intro n0
    induction n0 with
    | zero =>
      intro k d1 hkk hC1
      refine m_iload_n (pc' := 95) dL_digest_94 rfl rfl ?_
      refine m_bipush (pc' := 97) (v := 16) dL_digest_95 (by decide) rfl ?_
      refine m_icmp_ge (tgt := 134) (pc' := 100) dL_digest_97 (by decide) rfl (fun h97 => ?_) (fun h97 => (h97 (nI_le (a := 16) (by omega) (by omega))).elim)
      refine m_iconst (pc' := 135) (v := 0) dL_digest_134 (by decide) rfl ?_
      refine m_istore_n (pc' := 136) dL_digest_135 (by decide) rfl rfl ?_
      obtain rfl : k = 16 := by omega
      exact J4 32 0 _ (by omega) hC1
    | succ n0 ih =>
      intro k d1 hkk hC1
      refine m_iload_n (pc' := 95) dL_digest_94 rfl rfl ?_
      refine m_bipush (pc' := 97) (v := 16) dL_digest_95 (by decide) rfl ?_
      refine m_icmp_ge (tgt := 134) (pc' := 100) dL_digest_97 (by decide) rfl (fun h97 => absurd h97 (nI_ge (b := 16) (by omega) (by omega))) (fun h97 => ?_)
      refine m_ldc2 (pc' := 103) dL_digest_100 kc_L_digest_10 rfl ?_
      refine m_lload_n (pc' := 104) dL_digest_103 rfl rfl rfl ?_
      refine m_lmul (pc' := 105) dL_digest_104 rfl ?_
      refine m_aload_n (pc' := 106) dL_digest_105 rfl rfl ?_
      refine m_iload_n (pc' := 107) dL_digest_106 rfl rfl ?_
      refine m_iconst (pc' := 108) (v := 0) dL_digest_107 (by decide) rfl ?_
      refine m_callV (pc' := 111) (A := [.int (nI k), .int 0]) (rest := [.long (31 * (dg3 A (dg2 A (dg1 A 13) 8) k))]) (b := 0) cl_L_digest_22 dL_digest_108 rfl rfl (Nat.le_of_ble_eq_true rfl) ⟨by decide, by decide⟩ (by decide) rfl rfl rfl rfl ?_
      refine k_entry hC1 hO (fun e1 fe1 ce1 => ?_)
      show mM G mL_digest 111 [some (.ref 0), some (.long (dg3 A (dg2 A (dg1 A 13) 8) k)), none, some (.int (nI k)), none] [.int (vEntry A (nI k) 0), .long (31 * (dg3 A (dg2 A (dg1 A 13) 8) k))] S1 e1 (0, 0) Q
      refine m_i2l (pc' := 112) dL_digest_111 rfl ?_
      refine m_ladd (pc' := 113) dL_digest_112 rfl ?_
      refine m_lstore_n (pc' := 114) dL_digest_113 (Nat.le_of_ble_eq_true rfl) rfl rfl ?_
      refine m_ldc2 (pc' := 117) dL_digest_114 kc_L_digest_10 rfl ?_
      refine m_lload_n (pc' := 118) dL_digest_117 rfl rfl rfl ?_
      refine m_lmul (pc' := 119) dL_digest_118 rfl ?_
      refine m_aload_n (pc' := 120) dL_digest_119 rfl rfl ?_
      refine m_iload_n (pc' := 121) dL_digest_120 rfl rfl ?_
      refine m_iconst (pc' := 122) (v := 1) dL_digest_121 (by decide) rfl ?_
      refine m_callV (pc' := 125) (A := [.int (nI k), .int 1]) (rest := [.long (31 * ((31 * (dg3 A (dg2 A (dg1 A 13) 8) k)) + ((vEntry A (nI k) 0).toInt64)))]) (b := 0) cl_L_digest_22 dL_digest_122 rfl rfl (Nat.le_of_ble_eq_true rfl) ⟨by decide, by decide⟩ (by decide) rfl rfl rfl rfl ?_
      refine k_entry ce1 hO (fun e2 fe2 ce2 => ?_)
      show mM G mL_digest 125 [some (.ref 0), some (.long ((31 * (dg3 A (dg2 A (dg1 A 13) 8) k)) + ((vEntry A (nI k) 0).toInt64))), none, some (.int (nI k)), none] [.int (vEntry A (nI k) 1), .long (31 * ((31 * (dg3 A (dg2 A (dg1 A 13) 8) k)) + ((vEntry A (nI k) 0).toInt64)))] S1 e2 (0, 0) Q
      refine m_i2l (pc' := 126) dL_digest_125 rfl ?_
      refine m_ladd (pc' := 127) dL_digest_126 rfl ?_
      refine m_lstore_n (pc' := 128) dL_digest_127 (Nat.le_of_ble_eq_true rfl) rfl rfl ?_
      refine m_iinc (pc' := 131) dL_digest_128 rfl (by decide) (v := nI (k + 1)) (nI_1 k) rfl rfl ?_
      refine m_goto (tgt := 94) dL_digest_131 (by decide) ?_
      exact ih (k + 1) _ (by omega) ce2
  have J2 : ∀ (n0 : Nat) (k : Nat) (d1 : Dt) (_ : k + n0 = 8) (hC1 : CR d1 A), mM G mL_digest 49 [some (.ref 0), some (.long (dg2 A (dg1 A 13) k)), none, some (.int (nI k)), none] [] S1 d1 (0, 0) Q := by
    intro n0
    induction n0 with
    | zero =>
      intro k d1 hkk hC1
      refine m_iload_n (pc' := 50) dL_digest_49 rfl rfl ?_
      refine m_bipush (pc' := 52) (v := 8) dL_digest_50 (by decide) rfl ?_
      refine m_icmp_ge (tgt := 92) (pc' := 55) dL_digest_52 (by decide) rfl (fun h52 => ?_) (fun h52 => (h52 (nI_le (a := 8) (by omega) (by omega))).elim)
      refine m_iconst (pc' := 93) (v := 0) dL_digest_92 (by decide) rfl ?_
      refine m_istore_n (pc' := 94) dL_digest_93 (by decide) rfl rfl ?_
      obtain rfl : k = 8 := by omega
      exact J3 16 0 _ (by omega) hC1
    | succ n0 ih =>
      intro k d1 hkk hC1
      have JI : ∀ (n1 : Nat) (w : Nat) (d1 : Dt) (_ : w + n1 = 8) (hC1 : CR d1 A), mM G mL_digest 58 [some (.ref 0), some (.long (dgc A k (dg2 A (dg1 A 13) k) w)), none, some (.int (nI k)), some (.int (nI w))] [] S1 d1 (0, 0) Q := by
        intro n1
        induction n1 with
        | zero =>
          intro w d1 hkw hC1
          refine m_iload (pc' := 60) dL_digest_58 rfl rfl ?_
          refine m_bipush (pc' := 62) (v := 8) dL_digest_60 (by decide) rfl ?_
          refine m_icmp_ge (tgt := 86) (pc' := 65) dL_digest_62 (by decide) rfl (fun h62 => ?_) (fun h62 => (h62 (nI_le (a := 8) (by omega) (by omega))).elim)
          refine m_iinc (pc' := 89) dL_digest_86 rfl (by decide) (v := nI (k + 1)) (nI_1 k) rfl rfl ?_
          refine m_goto (tgt := 49) dL_digest_89 (by decide) ?_
          refine m_drop 4 (lo' := [some (.ref 0), some (.long (dgc A k (dg2 A (dg1 A 13) k) w)), none, some (.int (nI (k + 1))), none]) rfl ?_
          obtain rfl : w = 8 := by omega
          exact ih (k + 1) _ (by omega) hC1
        | succ n1 ih2 =>
          intro w d1 hkw hC1
          refine m_iload (pc' := 60) dL_digest_58 rfl rfl ?_
          refine m_bipush (pc' := 62) (v := 8) dL_digest_60 (by decide) rfl ?_
          refine m_icmp_ge (tgt := 86) (pc' := 65) dL_digest_62 (by decide) rfl (fun h62 => absurd h62 (nI_ge (b := 8) (by omega) (by omega))) (fun h62 => ?_)
          refine m_ldc2 (pc' := 68) dL_digest_65 kc_L_digest_10 rfl ?_
          refine m_lload_n (pc' := 69) dL_digest_68 rfl rfl rfl ?_
          refine m_lmul (pc' := 70) dL_digest_69 rfl ?_
          refine m_aload_n (pc' := 71) dL_digest_70 rfl rfl ?_
          refine m_iload_n (pc' := 72) dL_digest_71 rfl rfl ?_
          refine m_iload (pc' := 74) dL_digest_72 rfl rfl ?_
          refine m_callV (pc' := 77) (A := [.int (nI k), .int (nI w)]) (rest := [.long (31 * (dgc A k (dg2 A (dg1 A 13) k) w))]) (b := 0) cl_L_digest_18 dL_digest_74 rfl rfl (Nat.le_of_ble_eq_true rfl) ⟨by decide, by decide⟩ (by decide) rfl rfl rfl rfl ?_
          refine k_channel hC1 hO (fun e1 fe1 ce1 => ?_)
          show mM G mL_digest 77 [some (.ref 0), some (.long (dgc A k (dg2 A (dg1 A 13) k) w)), none, some (.int (nI k)), some (.int (nI w))] [.int (vChannel A (nI k) (nI w)), .long (31 * (dgc A k (dg2 A (dg1 A 13) k) w))] S1 e1 (0, 0) Q
          refine m_i2l (pc' := 78) dL_digest_77 rfl ?_
          refine m_ladd (pc' := 79) dL_digest_78 rfl ?_
          refine m_lstore_n (pc' := 80) dL_digest_79 (Nat.le_of_ble_eq_true rfl) rfl rfl ?_
          refine m_iinc (pc' := 83) dL_digest_80 rfl (by decide) (v := nI (w + 1)) (nI_1 w) rfl rfl ?_
          refine m_goto (tgt := 58) dL_digest_83 (by decide) ?_
          exact ih2 (w + 1) _ (by omega) ce1
      refine m_iload_n (pc' := 50) dL_digest_49 rfl rfl ?_
      refine m_bipush (pc' := 52) (v := 8) dL_digest_50 (by decide) rfl ?_
      refine m_icmp_ge (tgt := 92) (pc' := 55) dL_digest_52 (by decide) rfl (fun h52 => absurd h52 (nI_ge (b := 8) (by omega) (by omega))) (fun h52 => ?_)
      refine m_iconst (pc' := 56) (v := 0) dL_digest_55 (by decide) rfl ?_
      refine m_istore (pc' := 58) dL_digest_56 (by decide) rfl rfl ?_
      exact JI 8 0 _ (by omega) hC1
  have J1 : ∀ (n0 : Nat) (k : Nat) (d1 : Dt) (_ : k + n0 = 13) (hC1 : CR d1 A), mM G mL_digest 6 [some (.ref 0), some (.long (dg1 A k)), none, some (.int (nI k)), none] [] S1 d1 (0, 0) Q := by
    intro n0
    induction n0 with
    | zero =>
      intro k d1 hkk hC1
      refine m_iload_n (pc' := 7) dL_digest_6 rfl rfl ?_
      refine m_bipush (pc' := 9) (v := 13) dL_digest_7 (by decide) rfl ?_
      refine m_icmp_ge (tgt := 47) (pc' := 12) dL_digest_9 (by decide) rfl (fun h9 => ?_) (fun h9 => (h9 (nI_le (a := 13) (by omega) (by omega))).elim)
      refine m_iconst (pc' := 48) (v := 0) dL_digest_47 (by decide) rfl ?_
      refine m_istore_n (pc' := 49) dL_digest_48 (by decide) rfl rfl ?_
      obtain rfl : k = 13 := by omega
      exact J2 8 0 _ (by omega) hC1
    | succ n0 ih =>
      intro k d1 hkk hC1
      refine m_iload_n (pc' := 7) dL_digest_6 rfl rfl ?_
      refine m_bipush (pc' := 9) (v := 13) dL_digest_7 (by decide) rfl ?_
      refine m_icmp_ge (tgt := 47) (pc' := 12) dL_digest_9 (by decide) rfl (fun h9 => absurd h9 (nI_ge (b := 13) (by omega) (by omega))) (fun h9 => ?_)
      refine m_iload_n (pc' := 13) dL_digest_12 rfl rfl ?_
      refine m_bipush (pc' := 15) (v := 8) dL_digest_13 (by decide) rfl ?_
      refine m_icmp_eq (tgt := 24) (pc' := 18) dL_digest_15 (by decide) rfl (fun h15 => ?_) (fun h15 => ?_)
      · skip
        refine m_lload_n (pc' := 25) dL_digest_24 rfl rfl rfl ?_
        refine m_goto (tgt := 40) dL_digest_25 (by decide) ?_
        refine m_lstore_n (pc' := 41) dL_digest_40 (Nat.le_of_ble_eq_true rfl) rfl rfl ?_
        refine m_iinc (pc' := 44) dL_digest_41 rfl (by decide) (v := nI (k + 1)) (nI_1 k) rfl rfl ?_
        refine m_goto (tgt := 6) dL_digest_44 (by decide) ?_
        have e9 := ih (k + 1) d1 (by omega) hC1
        unfold dg1 at e9; rw [if_pos (Or.inl ((nI_eq (b := 8) (by omega) (by decide)).mp h15))] at e9
        exact e9
      · skip
        refine m_iload_n (pc' := 19) dL_digest_18 rfl rfl ?_
        refine m_bipush (pc' := 21) (v := 9) dL_digest_19 (by decide) rfl ?_
        refine m_icmp_ne (tgt := 28) (pc' := 24) dL_digest_21 (by decide) rfl (fun h21 => ?_) (fun h21 => ?_)
        · skip
          refine m_ldc2 (pc' := 31) dL_digest_28 kc_L_digest_10 rfl ?_
          refine m_lload_n (pc' := 32) dL_digest_31 rfl rfl rfl ?_
          refine m_lmul (pc' := 33) dL_digest_32 rfl ?_
          refine m_aload_n (pc' := 34) dL_digest_33 rfl rfl ?_
          refine m_iload_n (pc' := 35) dL_digest_34 rfl rfl ?_
          refine m_callV (pc' := 38) (A := [.int (nI k)]) (rest := [.long (31 * (dg1 A k))]) (b := 0) cl_L_digest_12 dL_digest_35 rfl rfl (Nat.le_of_ble_eq_true rfl) ⟨by decide, by decide⟩ (by decide) rfl rfl rfl rfl ?_
          refine k_count hC1 hO (fun e1 fe1 ce1 => ?_)
          show mM G mL_digest 38 [some (.ref 0), some (.long (dg1 A k)), none, some (.int (nI k)), none] [.int (vCount A (nI k)), .long (31 * (dg1 A k))] S1 e1 (0, 0) Q
          refine m_i2l (pc' := 39) dL_digest_38 rfl ?_
          refine m_ladd (pc' := 40) dL_digest_39 rfl ?_
          refine m_lstore_n (pc' := 41) dL_digest_40 (Nat.le_of_ble_eq_true rfl) rfl rfl ?_
          refine m_iinc (pc' := 44) dL_digest_41 rfl (by decide) (v := nI (k + 1)) (nI_1 k) rfl rfl ?_
          refine m_goto (tgt := 6) dL_digest_44 (by decide) ?_
          have e9 := ih (k + 1) e1 (by omega) ce1
          unfold dg1 at e9; rw [if_neg (fun z => z.elim (fun z => h15 (congrArg nI z)) (fun z => h21 (congrArg nI z)))] at e9
          exact e9
        · skip
          refine m_lload_n (pc' := 25) dL_digest_24 rfl rfl rfl ?_
          refine m_goto (tgt := 40) dL_digest_25 (by decide) ?_
          refine m_lstore_n (pc' := 41) dL_digest_40 (Nat.le_of_ble_eq_true rfl) rfl rfl ?_
          refine m_iinc (pc' := 44) dL_digest_41 rfl (by decide) (v := nI (k + 1)) (nI_1 k) rfl rfl ?_
          refine m_goto (tgt := 6) dL_digest_44 (by decide) ?_
          have e9 := ih (k + 1) d1 (by omega) hC1
          unfold dg1 at e9; rw [if_pos (Or.inr ((nI_eq (b := 9) (by omega) (by decide)).mp h21))] at e9
          exact e9
  refine mC_of (by decide +kernel) ⟨_, rfl⟩ (Nat.le_of_ble_eq_true rfl) ?_
  show mM G mL_digest 0 [some (.ref 0), none, none, none, none] [] S1 d (0, 0) Q
  refine m_ldc2 (pc' := 3) dL_digest_0 kc_L_digest_8 rfl ?_
  refine m_lstore_n (pc' := 4) dL_digest_3 (Nat.le_of_ble_eq_true rfl) rfl rfl ?_
  refine m_iconst (pc' := 5) (v := 0) dL_digest_4 (by decide) rfl ?_
  refine m_istore_n (pc' := 6) dL_digest_5 (by decide) rfl rfl ?_
  exact J1 13 0 d (by omega) hC
end LAWM
