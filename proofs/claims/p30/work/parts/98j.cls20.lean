/-! THE CLASS'S OWN CALLS (11): settleFor -/
section CLS20
variable {G : GP} {Q : Option Value → Sh → Dt → Prop} {d : Dt}
set_option maxHeartbeats 4000000 in
set_option maxRecDepth 100000 in
theorem k_settleFor {A : AS} {e l : Int32} (hC : CR d A) (hO : OK A) (hQ : ∀ d', cfr d d' → CR d' A → Q (some (.int (vSettle A e l))) S1 d') : mC G mX10_settleFor [.ref 0, .int e, .int l] S1 d Q := by
  by_cases hb : bin e 0 (a_s A 43 - 1) = 0
  · skip
    rw [show vSettle A e l = eI from if_pos (Or.inl hb)] at hQ
    refine mC_of (by decide +kernel) ⟨_, rfl⟩ (Nat.le_of_ble_eq_true rfl) ?_
    show mM G mX10_settleFor 0 [some (.ref 0), some (.int e), some (.int l), none, none, none, none] [] S1 d (0, 0) Q
    refine m_aload_n (pc' := 1) dX10_settleFor_0 rfl rfl ?_
    refine m_iload_n (pc' := 2) dX10_settleFor_1 rfl rfl ?_
    refine m_callV (pc' := 5) (A := [.int e]) (rest := []) (b := 0) cl_X10_settleFor_111 dX10_settleFor_2 rfl rfl (Nat.le_of_ble_eq_true rfl) ⟨by decide, by decide⟩ (by decide) rfl rfl rfl rfl ?_
    refine c_isEntry (s := a_s A) hC.1.1.2.2.2 ?_
    show mM G mX10_settleFor 5 [some (.ref 0), some (.int e), some (.int l), none, none, none, none] [.int (bin e 0 (a_s A 43 - 1))] S1 d (0, 0) Q
    rw [show (bin e 0 (a_s A 43 - 1)) = 0 from hb]
    refine m_if_eq (tgt := 19) (pc' := 8) dX10_settleFor_5 (by decide) rfl (fun h5 => ?_) (fun h5 => absurd h5 (by decide))
    refine m_ldc (pc' := 21) dX10_settleFor_19 kc_X10_settleFor_59 rfl ?_
    refine m_iret dX10_settleFor_21 rfl rfl ⟨by decide, by decide⟩ ?_
    exact hQ _ fr.rfl hC
  by_cases hb2 : bin l 0 4095 = 0
  · skip
    rw [show vSettle A e l = eI from if_pos (Or.inr hb2)] at hQ
    refine mC_of (by decide +kernel) ⟨_, rfl⟩ (Nat.le_of_ble_eq_true rfl) ?_
    show mM G mX10_settleFor 0 [some (.ref 0), some (.int e), some (.int l), none, none, none, none] [] S1 d (0, 0) Q
    refine m_aload_n (pc' := 1) dX10_settleFor_0 rfl rfl ?_
    refine m_iload_n (pc' := 2) dX10_settleFor_1 rfl rfl ?_
    refine m_callV (pc' := 5) (A := [.int e]) (rest := []) (b := 0) cl_X10_settleFor_111 dX10_settleFor_2 rfl rfl (Nat.le_of_ble_eq_true rfl) ⟨by decide, by decide⟩ (by decide) rfl rfl rfl rfl ?_
    refine c_isEntry (s := a_s A) hC.1.1.2.2.2 ?_
    show mM G mX10_settleFor 5 [some (.ref 0), some (.int e), some (.int l), none, none, none, none] [.int (bin e 0 (a_s A 43 - 1))] S1 d (0, 0) Q
    rw [show (bin e 0 (a_s A 43 - 1)) = 1 from bin_1 hb]
    refine m_if_eq (tgt := 19) (pc' := 8) dX10_settleFor_5 (by decide) rfl (fun h5 => absurd h5 (by decide)) (fun h5 => ?_)
    refine m_iload_n (pc' := 9) dX10_settleFor_8 rfl rfl ?_
    refine m_iconst (pc' := 10) (v := 0) dX10_settleFor_9 (by decide) rfl ?_
    refine m_sipush (pc' := 13) (v := 4095) dX10_settleFor_10 (by decide) rfl ?_
    refine m_callS (pc' := 16) (A := [.int l, .int 0, .int 4095]) (rest := []) cl_X10_settleFor_81 dX10_settleFor_13 rfl rfl (Nat.le_of_ble_eq_true rfl) ⟨by decide, by decide⟩ rfl rfl ?_
    refine c_within ?_
    show mM G mX10_settleFor 16 [some (.ref 0), some (.int e), some (.int l), none, none, none, none] [.int (bin l 0 4095)] S1 d (0, 0) Q
    rw [show (bin l 0 4095) = 0 from hb2]
    refine m_if_ne (tgt := 22) (pc' := 19) dX10_settleFor_16 (by decide) rfl (fun h16 => absurd h16 (by decide)) (fun h16 => ?_)
    refine m_ldc (pc' := 21) dX10_settleFor_19 kc_X10_settleFor_59 rfl ?_
    refine m_iret dX10_settleFor_21 rfl rfl ⟨by decide, by decide⟩ ?_
    exact hQ _ fr.rfl hC
  obtain ⟨n, hl⟩ := hO.l
  have e43 := hl.2.1
  have hn16 := hl.1
  obtain ⟨t0, ht0, et76⟩ := hO.t
  have hc := hO.c
  have ett : nn (a_s A 76) = t0 := by rw [et76]; exact nn_nI (by omega)
  obtain ⟨e, hen, rfl⟩ := bin_e (n := n) (by omega) (by rw [← e43]; exact hb)
  have htt := et_le (t0 := t0) hl e (by omega)
  rw [show vSettle A (nI e) l = stl (a_s A) (et (a_s A) t0 e) (eh (a_s A) t0 (a_h A) e) (pn (a_s A) e) l 8 from by unfold vSettle; rw [if_neg (not_or.mpr ⟨hb, hb2⟩), ett, nn_nI (by omega)]] at hQ
  have J : ∀ (n0 : Nat) (q : Nat) (d1 : Dt) (_ : q + n0 = 8) (_ : fr cvE cvF d d1) (_ : SR d1 2 (a_s A)) (_ : stl (a_s A) (et (a_s A) t0 e) (eh (a_s A) t0 (a_h A) e) (pn (a_s A) e) l q = -10000009), mM G mX10_settleFor 72 [some (.ref 0), some (.int (nI e)), some (.int l), some (.float (eh (a_s A) t0 (a_h A) e)), some (.int (nI (et (a_s A) t0 e))), some (.int (nI (pn (a_s A) e))), some (.int (nI q))] [] S1 d1 (0, 0) Q := by
    intro n0
    induction n0 with
    | zero =>
      intro q d1 hk hd hS hs0
      refine m_iload (pc' := 74) dX10_settleFor_72 rfl rfl ?_
      refine m_bipush (pc' := 76) (v := 7) dX10_settleFor_74 (by decide) rfl ?_
      refine m_icmp_gt (tgt := 130) (pc' := 79) dX10_settleFor_76 (by decide) rfl (fun h76 => ?_) (fun h76 => (h76 (nI_lt (a := 7) (by omega) (by omega))).elim)
      refine m_ldc (pc' := 132) dX10_settleFor_130 kc_X10_settleFor_222 rfl ?_
      refine m_iret dX10_settleFor_132 rfl rfl ⟨by decide, by decide⟩ ?_
      obtain rfl : q = 8 := by omega
      exact q_i (hQ d1 (cv_cf hd) (CR_cv hC hd)) hs0.symm
    | succ n0 ih =>
      intro q d1 hk hd hS hs0
      refine m_iload (pc' := 74) dX10_settleFor_72 rfl rfl ?_
      refine m_bipush (pc' := 76) (v := 7) dX10_settleFor_74 (by decide) rfl ?_
      refine m_icmp_gt (tgt := 130) (pc' := 79) dX10_settleFor_76 (by decide) rfl (fun h76 => absurd h76 (Int32.not_lt.mpr (nI_le (b := 7) (by omega) (by decide)))) (fun h76 => ?_)
      refine m_aload_n (pc' := 80) dX10_settleFor_79 rfl rfl ?_
      refine m_getR (pc' := 83) fa_X10_settleFor_26 dX10_settleFor_80 (by decide) rfl rfl rfl rfl ?_
      refine m_fload_n (pc' := 84) dX10_settleFor_83 rfl rfl ?_
      refine m_iload (pc' := 86) dX10_settleFor_84 rfl rfl ?_
      refine m_callV (pc' := 89) (A := [.float (eh (a_s A) t0 (a_h A) e), .int (nI (et (a_s A) t0 e))]) (rest := []) (b := 189) cl_X10_settleFor_140 dX10_settleFor_86 rfl rfl (Nat.le_of_ble_eq_true rfl) ⟨by decide, by decide⟩ (by decide) rfl rfl rfl rfl ?_
      refine c_start (fun b b0 b1 b9 => ?_)
      show mM G mX10_settleFor 89 [some (.ref 0), some (.int (nI e)), some (.int l), some (.float (eh (a_s A) t0 (a_h A) e)), some (.int (nI (et (a_s A) t0 e))), some (.int (nI (pn (a_s A) e))), some (.int (nI q))] [] S1 b (0, 0) Q
      refine m_aload_n (pc' := 90) dX10_settleFor_89 rfl rfl ?_
      refine m_getR (pc' := 93) fa_X10_settleFor_26 dX10_settleFor_90 (by decide) rfl rfl rfl rfl ?_
      refine m_aload_n (pc' := 94) dX10_settleFor_93 rfl rfl ?_
      refine m_getR (pc' := 97) fa_X10_settleFor_10 dX10_settleFor_94 (by decide) rfl rfl rfl rfl ?_
      refine m_getR (pc' := 100) fa_X10_settleFor_64 dX10_settleFor_97 (by decide) rfl rfl rfl rfl ?_
      refine m_iload (pc' := 102) dX10_settleFor_100 rfl rfl ?_
      refine m_iload (pc' := 104) dX10_settleFor_102 rfl rfl ?_
      refine m_callV (pc' := 107) (A := [.ref 2, .int (nI (pn (a_s A) e)), .int (nI q)]) (rest := []) (b := 189) cl_X10_settleFor_257 dX10_settleFor_104 rfl rfl (Nat.le_of_ble_eq_true rfl) ⟨by decide, by decide⟩ (by decide) rfl rfl rfl rfl ?_
      refine c_carryOut (p := (pn (a_s A) e)) (q := q) (t := (et (a_s A) t0 e)) (h := (eh (a_s A) t0 (a_h A) e)) (s := a_s A) (by decide) (hS.cv (by decide) b0) (okL_p hl hen).2 hc (by omega) (by omega) b1 b9 (fun e1 e0 eS ea e9 e2 e3 e4 => ?_)
      show mM G mX10_settleFor 107 [some (.ref 0), some (.int (nI e)), some (.int l), some (.float (eh (a_s A) t0 (a_h A) e)), some (.int (nI (et (a_s A) t0 e))), some (.int (nI (pn (a_s A) e))), some (.int (nI q))] [] S1 e1 (0, 0) Q
      refine m_aload_n (pc' := 108) dX10_settleFor_107 rfl rfl ?_
      refine m_getR (pc' := 111) fa_X10_settleFor_26 dX10_settleFor_108 (by decide) rfl rfl rfl rfl ?_
      refine m_callV (pc' := 114) (A := []) (rest := []) (b := 189) cl_X10_settleFor_244 dX10_settleFor_111 rfl rfl (Nat.le_of_ble_eq_true rfl) ⟨by decide, by decide⟩ (by decide) rfl rfl rfl rfl ?_
      refine c_error ?_
      show mM G mX10_settleFor 114 [some (.ref 0), some (.int (nI e)), some (.int l), some (.float (eh (a_s A) t0 (a_h A) e)), some (.int (nI (et (a_s A) t0 e))), some (.int (nI (pn (a_s A) e))), some (.int (nI q))] [.int ((e1.1 189 2) - (e1.1 189 4))] S1 e1 (0, 0) Q
      rw [show ((e1.1 189 2) - (e1.1 189 4)) = (xe (a_s A) (pn (a_s A) e) q (et (a_s A) t0 e) (eh (a_s A) t0 (a_h A) e)) from (by rw [e2, e4]; rfl)]
      refine m_mabs (pc' := 117) wm_X10_settleFor_261 dX10_settleFor_114 (Nat.le_of_ble_eq_true rfl) ⟨by decide, by decide⟩ rfl ?_
      rw [show (if 0 ≤ (xe (a_s A) (pn (a_s A) e) q (et (a_s A) t0 e) (eh (a_s A) t0 (a_h A) e)) then (xe (a_s A) (pn (a_s A) e) q (et (a_s A) t0 e) (eh (a_s A) t0 (a_h A) e)) else 0 - (xe (a_s A) (pn (a_s A) e) q (et (a_s A) t0 e) (eh (a_s A) t0 (a_h A) e))) = (siz (xe (a_s A) (pn (a_s A) e) q (et (a_s A) t0 e) (eh (a_s A) t0 (a_h A) e))) from siz_abs _]
      refine m_iload_n (pc' := 118) dX10_settleFor_117 rfl rfl ?_
      refine m_icmp_gt (tgt := 124) (pc' := 121) dX10_settleFor_118 (by decide) rfl (fun h118 => ?_) (fun h118 => ?_)
      · skip
        refine m_iinc (pc' := 127) dX10_settleFor_124 rfl (by decide) (v := nI (q + 1)) (nI_1 q) rfl rfl ?_
        refine m_goto (tgt := 72) dX10_settleFor_127 (by decide) ?_
        have es : stl (a_s A) (et (a_s A) t0 e) (eh (a_s A) t0 (a_h A) e) (pn (a_s A) e) l (q + 1) = -10000009 := by
          show (if stl (a_s A) (et (a_s A) t0 e) (eh (a_s A) t0 (a_h A) e) (pn (a_s A) e) l q = -10000009 then (if siz (xe (a_s A) (pn (a_s A) e) q (et (a_s A) t0 e) (eh (a_s A) t0 (a_h A) e)) ≤ l then nI q else -10000009) else stl (a_s A) (et (a_s A) t0 e) (eh (a_s A) t0 (a_h A) e) (pn (a_s A) e) l q) = _
          rw [if_pos hs0, if_neg (Int32.not_le.mpr h118)]
        exact ih (q + 1) e1 (by omega) ((hd.trans b0).trans e0) eS es
      · skip
        refine m_iload (pc' := 123) dX10_settleFor_121 rfl rfl ?_
        refine m_iret dX10_settleFor_123 rfl rfl ⟨by decide, by decide⟩ ?_
        have es : stl (a_s A) (et (a_s A) t0 e) (eh (a_s A) t0 (a_h A) e) (pn (a_s A) e) l (q + 1) = nI q := by
          show (if stl (a_s A) (et (a_s A) t0 e) (eh (a_s A) t0 (a_h A) e) (pn (a_s A) e) l q = -10000009 then (if siz (xe (a_s A) (pn (a_s A) e) q (et (a_s A) t0 e) (eh (a_s A) t0 (a_h A) e)) ≤ l then nI q else -10000009) else stl (a_s A) (et (a_s A) t0 e) (eh (a_s A) t0 (a_h A) e) (pn (a_s A) e) l q) = _
          rw [if_pos hs0, if_pos (Int32.not_lt.mp h118)]
        have hne : ¬ nI q = -10000009 := fun h => by have := congrArg Int32.toInt h; rw [nI_toInt (by omega), show (-10000009 : Int32).toInt = -10000009 by decide] at this; omega
        have fz := (hd.trans b0).trans e0
        exact q_i (hQ e1 (cv_cf fz) (CR_cv hC fz)) (es.symm.trans (stl_stay8 (by omega) (by rw [es]; exact hne)))
  refine mC_of (by decide +kernel) ⟨_, rfl⟩ (Nat.le_of_ble_eq_true rfl) ?_
  show mM G mX10_settleFor 0 [some (.ref 0), some (.int (nI e)), some (.int l), none, none, none, none] [] S1 d (0, 0) Q
  refine m_aload_n (pc' := 1) dX10_settleFor_0 rfl rfl ?_
  refine m_iload_n (pc' := 2) dX10_settleFor_1 rfl rfl ?_
  refine m_callV (pc' := 5) (A := [.int (nI e)]) (rest := []) (b := 0) cl_X10_settleFor_111 dX10_settleFor_2 rfl rfl (Nat.le_of_ble_eq_true rfl) ⟨by decide, by decide⟩ (by decide) rfl rfl rfl rfl ?_
  refine c_isEntry (s := a_s A) hC.1.1.2.2.2 ?_
  show mM G mX10_settleFor 5 [some (.ref 0), some (.int (nI e)), some (.int l), none, none, none, none] [.int (bin (nI e) 0 (a_s A 43 - 1))] S1 d (0, 0) Q
  rw [show (bin (nI e) 0 (a_s A 43 - 1)) = 1 from bin_1 hb]
  refine m_if_eq (tgt := 19) (pc' := 8) dX10_settleFor_5 (by decide) rfl (fun h5 => absurd h5 (by decide)) (fun h5 => ?_)
  refine m_iload_n (pc' := 9) dX10_settleFor_8 rfl rfl ?_
  refine m_iconst (pc' := 10) (v := 0) dX10_settleFor_9 (by decide) rfl ?_
  refine m_sipush (pc' := 13) (v := 4095) dX10_settleFor_10 (by decide) rfl ?_
  refine m_callS (pc' := 16) (A := [.int l, .int 0, .int 4095]) (rest := []) cl_X10_settleFor_81 dX10_settleFor_13 rfl rfl (Nat.le_of_ble_eq_true rfl) ⟨by decide, by decide⟩ rfl rfl ?_
  refine c_within ?_
  show mM G mX10_settleFor 16 [some (.ref 0), some (.int (nI e)), some (.int l), none, none, none, none] [.int (bin l 0 4095)] S1 d (0, 0) Q
  rw [show (bin l 0 4095) = 1 from bin_1 hb2]
  refine m_if_ne (tgt := 22) (pc' := 19) dX10_settleFor_16 (by decide) rfl (fun h16 => ?_) (fun h16 => absurd h16 (by decide))
  refine m_aload_n (pc' := 23) dX10_settleFor_22 rfl rfl ?_
  refine m_aload_n (pc' := 24) dX10_settleFor_23 rfl rfl ?_
  refine m_getR (pc' := 27) fa_X10_settleFor_10 dX10_settleFor_24 (by decide) rfl rfl rfl rfl ?_
  refine m_getR (pc' := 30) fa_X10_settleFor_64 dX10_settleFor_27 (by decide) rfl rfl rfl rfl ?_
  refine m_iload_n (pc' := 31) dX10_settleFor_30 rfl rfl ?_
  refine m_callV (pc' := 34) (A := [.ref 2, .int (nI e)]) (rest := []) (b := 0) cl_X10_settleFor_234 dX10_settleFor_31 rfl rfl (Nat.le_of_ble_eq_true rfl) ⟨by decide, by decide⟩ (by decide) rfl rfl rfl rfl ?_
  refine c_try (n := n) (m := e) (t0 := t0) (h := a_h A) (sA := a_s A) (s := a_s A) hC.1 hO.1.2.2.2.2.2 et76 ht0 (by decide) hC.1.1 hl hc (by omega) (fun f f0 fS f1 f9 fq => ?_)
  show mM G mX10_settleFor 34 [some (.ref 0), some (.int (nI e)), some (.int l), none, none, none, none] [.int (esm (a_s A) t0 (a_h A) e)] S1 f (0, 0) Q
  refine m_pop (pc' := 35) dX10_settleFor_34 rfl ?_
  refine m_aload_n (pc' := 36) dX10_settleFor_35 rfl rfl ?_
  refine m_getR (pc' := 39) fa_X10_settleFor_26 dX10_settleFor_36 (by decide) rfl rfl rfl rfl ?_
  refine m_getF (pc' := 42) fa_X10_settleFor_247 dX10_settleFor_39 (by decide) rfl rfl rfl ?_
  rw [show (f.2 189 0) = (eh (a_s A) t0 (a_h A) e) from f9]
  refine m_fstore_n (pc' := 43) dX10_settleFor_42 (by decide) rfl rfl ?_
  refine m_aload_n (pc' := 44) dX10_settleFor_43 rfl rfl ?_
  refine m_getR (pc' := 47) fa_X10_settleFor_26 dX10_settleFor_44 (by decide) rfl rfl rfl rfl ?_
  refine m_getI (pc' := 50) fa_X10_settleFor_255 dX10_settleFor_47 (by decide) rfl rfl rfl ?_
  rw [show (f.1 189 1) = (nI (et (a_s A) t0 e)) from f1]
  refine m_istore (pc' := 52) dX10_settleFor_50 (by decide) rfl rfl ?_
  refine m_aload_n (pc' := 53) dX10_settleFor_52 rfl rfl ?_
  refine m_getR (pc' := 56) fa_X10_settleFor_10 dX10_settleFor_53 (by decide) rfl rfl rfl rfl ?_
  refine m_getR (pc' := 59) fa_X10_settleFor_64 dX10_settleFor_56 (by decide) rfl rfl rfl rfl ?_
  refine m_getR (pc' := 62) fa_X10_settleFor_118 dX10_settleFor_59 (by decide) rfl rfl rfl rfl ?_
  refine m_iload_n (pc' := 63) dX10_settleFor_62 rfl rfl ?_
  refine m_iconst (pc' := 64) (v := 0) dX10_settleFor_63 (by decide) rfl ?_
  refine m_callV (pc' := 67) (A := [.int (nI e), .int 0]) (rest := []) (b := 5) cl_X10_settleFor_71 dX10_settleFor_64 rfl rfl (Nat.le_of_ble_eq_true rfl) ⟨by decide, by decide⟩ (by decide) rfl rfl rfl rfl ?_
  refine c_atN (t := 5) (W := 2) (L := 32) (a := e) (b := 0) (k := 2 * e) (isT_lit (by decide +kernel)) (by decide) (by omega) (by omega) ?_
  show mM G mX10_settleFor 67 [some (.ref 0), some (.int (nI e)), some (.int l), some (.float (eh (a_s A) t0 (a_h A) e)), some (.int (nI (et (a_s A) t0 e))), none, none] [.int (f.1 6 (2 * e))] S1 f (0, 0) Q
  rw [show (f.1 6 (2 * e)) = (nI (pn (a_s A) e)) from (fS.2.1 (2 * e) (by omega)).trans (okL_p hl hen).1]
  refine m_istore (pc' := 69) dX10_settleFor_67 (by decide) rfl rfl ?_
  refine m_iconst (pc' := 70) (v := 0) dX10_settleFor_69 (by decide) rfl ?_
  refine m_istore (pc' := 72) dX10_settleFor_70 (by decide) rfl rfl ?_
  exact J 8 0 f (by omega) f0 fS rfl
end CLS20
