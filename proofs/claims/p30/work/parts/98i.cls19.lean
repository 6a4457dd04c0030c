/-! THE CLASS'S OWN CALLS (10): why -/
section CLS19
variable {G : GP} {Q : Option Value → Sh → Dt → Prop} {d : Dt}
set_option maxHeartbeats 4000000 in
set_option maxRecDepth 100000 in
theorem k_why {A : AS} {e : Int32} (hC : CR d A) (hO : OK A) (hQ : ∀ d', cfr d d' → CR d' A → Q (some (.int (vWhy A e))) S1 d') : mC G mX10_why [.ref 0, .int e] S1 d Q := by
  by_cases hb : bin e 0 (a_s A 43 - 1) = 0
  · skip
    rw [show vWhy A e = eI from if_pos hb] at hQ
    refine mC_of (by decide +kernel) ⟨_, rfl⟩ (Nat.le_of_ble_eq_true rfl) ?_
    show mM G mX10_why 0 [some (.ref 0), some (.int e)] [] S1 d (0, 0) Q
    refine m_aload_n (pc' := 1) dX10_why_0 rfl rfl ?_
    refine m_iload_n (pc' := 2) dX10_why_1 rfl rfl ?_
    refine m_callV (pc' := 5) (A := [.int e]) (rest := []) (b := 0) cl_X10_why_111 dX10_why_2 rfl rfl (Nat.le_of_ble_eq_true rfl) ⟨by decide, by decide⟩ (by decide) rfl rfl rfl rfl ?_
    refine c_isEntry (s := a_s A) hC.1.1.2.2.2 ?_
    show mM G mX10_why 5 [some (.ref 0), some (.int e)] [.int (bin e 0 (a_s A 43 - 1))] S1 d (0, 0) Q
    rw [show (bin e 0 (a_s A 43 - 1)) = 0 from hb]
    refine m_if_ne (tgt := 11) (pc' := 8) dX10_why_5 (by decide) rfl (fun h5 => absurd h5 (by decide)) (fun h5 => ?_)
    refine m_ldc (pc' := 10) dX10_why_8 kc_X10_why_59 rfl ?_
    refine m_iret dX10_why_10 rfl rfl ⟨by decide, by decide⟩ ?_
    exact hQ _ fr.rfl hC
  obtain ⟨n, hl⟩ := hO.l
  have e43 := hl.2.1
  have hn16 := hl.1
  obtain ⟨t0, ht0, et76⟩ := hO.t
  have hc := hO.c
  have ett : nn (a_s A 76) = t0 := by rw [et76]; exact nn_nI (by omega)
  obtain ⟨e, hen, rfl⟩ := bin_e (n := n) (by omega) (by rw [← e43]; exact hb)
  rw [show vWhy A (nI e) = if ee (a_s A) t0 (a_h A) e = 0 then 0 else if ¬ ec (a_s A) t0 (a_h A) e = 0 then (if 0 < ec (a_s A) t0 (a_h A) e then 1 else 2) else if rdb (eh (a_s A) t0 (a_h A) (e + 1)) 1000 0 = pvl (a_s A) (pn (a_s A) e) (nI (et (a_s A) t0 e + qn (a_s A) e)) then 3 else 4 from by unfold vWhy; rw [if_neg hb, ett, nn_nI (by omega)]] at hQ
  refine mC_of (by decide +kernel) ⟨_, rfl⟩ (Nat.le_of_ble_eq_true rfl) ?_
  show mM G mX10_why 0 [some (.ref 0), some (.int (nI e))] [] S1 d (0, 0) Q
  refine m_aload_n (pc' := 1) dX10_why_0 rfl rfl ?_
  refine m_iload_n (pc' := 2) dX10_why_1 rfl rfl ?_
  refine m_callV (pc' := 5) (A := [.int (nI e)]) (rest := []) (b := 0) cl_X10_why_111 dX10_why_2 rfl rfl (Nat.le_of_ble_eq_true rfl) ⟨by decide, by decide⟩ (by decide) rfl rfl rfl rfl ?_
  refine c_isEntry (s := a_s A) hC.1.1.2.2.2 ?_
  show mM G mX10_why 5 [some (.ref 0), some (.int (nI e))] [.int (bin (nI e) 0 (a_s A 43 - 1))] S1 d (0, 0) Q
  rw [show (bin (nI e) 0 (a_s A 43 - 1)) = 1 from bin_1 hb]
  refine m_if_ne (tgt := 11) (pc' := 8) dX10_why_5 (by decide) rfl (fun h5 => ?_) (fun h5 => absurd h5 (by decide))
  refine m_aload_n (pc' := 12) dX10_why_11 rfl rfl ?_
  refine m_aload_n (pc' := 13) dX10_why_12 rfl rfl ?_
  refine m_getR (pc' := 16) fa_X10_why_10 dX10_why_13 (by decide) rfl rfl rfl rfl ?_
  refine m_getR (pc' := 19) fa_X10_why_64 dX10_why_16 (by decide) rfl rfl rfl rfl ?_
  refine m_iload_n (pc' := 20) dX10_why_19 rfl rfl ?_
  refine m_iconst (pc' := 21) (v := 1) dX10_why_20 (by decide) rfl ?_
  refine m_iadd (pc' := 22) dX10_why_21 rfl ?_
  rw [show ((nI e) + 1) = (nI (e + 1)) from nI_1 e]
  refine m_callV (pc' := 25) (A := [.ref 2, .int (nI (e + 1))]) (rest := []) (b := 0) cl_X10_why_234 dX10_why_22 rfl rfl (Nat.le_of_ble_eq_true rfl) ⟨by decide, by decide⟩ (by decide) rfl rfl rfl rfl ?_
  refine c_try (n := n) (m := e + 1) (t0 := t0) (h := a_h A) (sA := a_s A) (s := a_s A) hC.1 hO.1.2.2.2.2.2 et76 ht0 (by decide) hC.1.1 hl hc (by omega) (fun f f0 fS f1 f9 fq => ?_)
  show mM G mX10_why 25 [some (.ref 0), some (.int (nI e))] [.int (esm (a_s A) t0 (a_h A) (e + 1))] S1 f (0, 0) Q
  have r2 : f.1 189 2 = er (a_s A) t0 (a_h A) e := (fq (by omega)).1
  have r3 : f.1 189 3 = ec (a_s A) t0 (a_h A) e := (fq (by omega)).2.1
  have r4 : f.1 189 4 = pvl (a_s A) (pn (a_s A) e) (nI (et (a_s A) t0 e + qn (a_s A) e)) := (fq (by omega)).2.2
  refine m_pop (pc' := 26) dX10_why_25 rfl ?_
  refine m_aload_n (pc' := 27) dX10_why_26 rfl rfl ?_
  refine m_getR (pc' := 30) fa_X10_why_26 dX10_why_27 (by decide) rfl rfl rfl rfl ?_
  refine m_callV (pc' := 33) (A := []) (rest := []) (b := 189) cl_X10_why_244 dX10_why_30 rfl rfl (Nat.le_of_ble_eq_true rfl) ⟨by decide, by decide⟩ (by decide) rfl rfl rfl rfl ?_
  refine c_error ?_
  show mM G mX10_why 33 [some (.ref 0), some (.int (nI e))] [.int ((f.1 189 2) - (f.1 189 4))] S1 f (0, 0) Q
  rw [show ((f.1 189 2) - (f.1 189 4)) = (ee (a_s A) t0 (a_h A) e) from (by rw [r2, r4]; rfl)]
  refine m_if_ne (tgt := 38) (pc' := 36) dX10_why_33 (by decide) rfl (fun h33 => ?_) (fun h33 => ?_)
  · skip
    refine m_aload_n (pc' := 39) dX10_why_38 rfl rfl ?_
    refine m_getR (pc' := 42) fa_X10_why_26 dX10_why_39 (by decide) rfl rfl rfl rfl ?_
    refine m_getI (pc' := 45) fa_X10_why_241 dX10_why_42 (by decide) rfl rfl rfl ?_
    rw [show (f.1 189 3) = (ec (a_s A) t0 (a_h A) e) from r3]
    refine m_if_eq (tgt := 64) (pc' := 48) dX10_why_45 (by decide) rfl (fun h45 => ?_) (fun h45 => ?_)
    · skip
      refine m_aload_n (pc' := 65) dX10_why_64 rfl rfl ?_
      refine m_getR (pc' := 68) fa_X10_why_26 dX10_why_65 (by decide) rfl rfl rfl rfl ?_
      refine m_getF (pc' := 71) fa_X10_why_247 dX10_why_68 (by decide) rfl rfl rfl ?_
      rw [show (f.2 189 0) = (eh (a_s A) t0 (a_h A) (e + 1)) from f9]
      refine m_sipush (pc' := 74) (v := 1000) dX10_why_71 (by decide) rfl ?_
      refine m_iconst (pc' := 75) (v := 0) dX10_why_74 (by decide) rfl ?_
      refine m_callS (pc' := 78) (A := [.float (eh (a_s A) t0 (a_h A) (e + 1)), .int 1000, .int 0]) (rest := []) cl_X10_why_248 dX10_why_75 rfl rfl (Nat.le_of_ble_eq_true rfl) ⟨by decide, by decide⟩ rfl rfl ?_
      refine c_readingWith ?_
      show mM G mX10_why 78 [some (.ref 0), some (.int (nI e))] [.int (rdb (eh (a_s A) t0 (a_h A) (e + 1)) 1000 0)] S1 f (0, 0) Q
      refine m_aload_n (pc' := 79) dX10_why_78 rfl rfl ?_
      refine m_getR (pc' := 82) fa_X10_why_26 dX10_why_79 (by decide) rfl rfl rfl rfl ?_
      refine m_getI (pc' := 85) fa_X10_why_252 dX10_why_82 (by decide) rfl rfl rfl ?_
      rw [show (f.1 189 4) = (pvl (a_s A) (pn (a_s A) e) (nI (et (a_s A) t0 e + qn (a_s A) e))) from r4]
      refine m_icmp_ne (tgt := 92) (pc' := 88) dX10_why_85 (by decide) rfl (fun h85 => ?_) (fun h85 => ?_)
      · skip
        refine m_iconst (pc' := 93) (v := 4) dX10_why_92 (by decide) rfl ?_
        refine m_iret dX10_why_93 rfl rfl ⟨by decide, by decide⟩ ?_
        exact q_i (hQ f (cv_cf f0) (CR_cv hC f0)) (by rw [if_neg h33, if_neg (fun h => h h45), if_neg h85])
      · skip
        refine m_iconst (pc' := 89) (v := 3) dX10_why_88 (by decide) rfl ?_
        refine m_goto (tgt := 93) dX10_why_89 (by decide) ?_
        refine m_iret dX10_why_93 rfl rfl ⟨by decide, by decide⟩ ?_
        exact q_i (hQ f (cv_cf f0) (CR_cv hC f0)) (by rw [if_neg h33, if_neg (fun h => h h45), if_pos h85])
    · skip
      refine m_aload_n (pc' := 49) dX10_why_48 rfl rfl ?_
      refine m_getR (pc' := 52) fa_X10_why_26 dX10_why_49 (by decide) rfl rfl rfl rfl ?_
      refine m_getI (pc' := 55) fa_X10_why_241 dX10_why_52 (by decide) rfl rfl rfl ?_
      rw [show (f.1 189 3) = (ec (a_s A) t0 (a_h A) e) from r3]
      refine m_if_le (tgt := 62) (pc' := 58) dX10_why_55 (by decide) rfl (fun h55 => ?_) (fun h55 => ?_)
      · skip
        refine m_iconst (pc' := 63) (v := 2) dX10_why_62 (by decide) rfl ?_
        refine m_iret dX10_why_63 rfl rfl ⟨by decide, by decide⟩ ?_
        exact q_i (hQ f (cv_cf f0) (CR_cv hC f0)) (by rw [if_neg h33, if_pos h45, if_neg (Int32.not_lt.mpr h55)])
      · skip
        refine m_iconst (pc' := 59) (v := 1) dX10_why_58 (by decide) rfl ?_
        refine m_goto (tgt := 63) dX10_why_59 (by decide) ?_
        refine m_iret dX10_why_63 rfl rfl ⟨by decide, by decide⟩ ?_
        exact q_i (hQ f (cv_cf f0) (CR_cv hC f0)) (by rw [if_neg h33, if_pos h45, if_pos (Int32.not_le.mp h55)])
  · skip
    refine m_iconst (pc' := 37) (v := 0) dX10_why_36 (by decide) rfl ?_
    refine m_iret dX10_why_37 rfl rfl ⟨by decide, by decide⟩ ?_
    exact q_i (hQ f (cv_cf f0) (CR_cv hC f0)) (by rw [if_pos h33])
end CLS19
