/-! THE CHECK'S OWN CALLS (5): settles tried, grounds counted, scans -/
section MOD10
variable {G : GP} {Q : Option Value → Sh → Dt → Prop} {d : Dt}
set_option maxHeartbeats 4000000 in
set_option maxRecDepth 100000 in
theorem p_settleFor {A : AS} {e l : Int32} (hM : MM d A) (hO : OK A) (hQ : ∀ d', mfr d d' → MM d' A → Q (some (.int (vSettle A e l))) S1 d') : mC G mX11_settleFor [.ref 214, .int e, .int l] S1 d Q := by
  have hs : d.1 215 = a_s A := hM.1
  by_cases h1 : bin e 0 (a_s A 43 - 1) = 0
  · skip
    rw [show vSettle A e l = eI from if_pos (Or.inl h1)] at hQ
    refine mC_of (by decide +kernel) ⟨_, rfl⟩ (Nat.le_of_ble_eq_true rfl) ?_
    show mM G mX11_settleFor 0 [some (.ref 214), some (.int e), some (.int l), none, none, none] [] S1 d (0, 0) Q
    refine m_aload_n (pc' := 1) dX11_settleFor_0 rfl rfl ?_
    refine m_iconst (pc' := 2) (v := 0) dX11_settleFor_1 (by decide) rfl ?_
    refine m_putI (pc' := 5) (ty := .int) fa_X11_settleFor_29 dX11_settleFor_2 (by decide +kernel) rfl rfl (by decide) rfl rfl rfl ?_
    refine m_aload_n (pc' := 6) dX11_settleFor_5 rfl rfl ?_
    refine m_iload_n (pc' := 7) dX11_settleFor_6 rfl rfl ?_
    refine m_callV (pc' := 10) (A := [.int e]) (rest := []) (b := 214) cl_X11_settleFor_127 dX11_settleFor_7 rfl rfl (Nat.le_of_ble_eq_true rfl) ⟨by decide, by decide⟩ (by decide) rfl rfl rfl rfl ?_
    refine c_ment (s := a_s A) hs ?_
    show mM G mX11_settleFor 10 [some (.ref 214), some (.int e), some (.int l), none, none, none] [.int (bin e 0 ((a_s A) 43 - 1))] S1 (u2 d.1 214 0 0, d.2) (0, 0) Q
    rw [show (bin e 0 ((a_s A) 43 - 1)) = 0 from h1]
    refine m_if_eq (tgt := 24) (pc' := 13) dX11_settleFor_10 (by decide) rfl (fun h10 => ?_) (fun h10 => absurd h10 (by decide))
    refine m_ldc (pc' := 26) dX11_settleFor_24 kc_X11_settleFor_111 rfl ?_
    refine m_iret dX11_settleFor_26 rfl rfl ⟨by decide, by decide⟩ ?_
    exact hQ _ mfr.th hM.th
  by_cases h2 : bin l 0 4095 = 0
  · skip
    rw [show vSettle A e l = eI from if_pos (Or.inr h2)] at hQ
    refine mC_of (by decide +kernel) ⟨_, rfl⟩ (Nat.le_of_ble_eq_true rfl) ?_
    show mM G mX11_settleFor 0 [some (.ref 214), some (.int e), some (.int l), none, none, none] [] S1 d (0, 0) Q
    refine m_aload_n (pc' := 1) dX11_settleFor_0 rfl rfl ?_
    refine m_iconst (pc' := 2) (v := 0) dX11_settleFor_1 (by decide) rfl ?_
    refine m_putI (pc' := 5) (ty := .int) fa_X11_settleFor_29 dX11_settleFor_2 (by decide +kernel) rfl rfl (by decide) rfl rfl rfl ?_
    refine m_aload_n (pc' := 6) dX11_settleFor_5 rfl rfl ?_
    refine m_iload_n (pc' := 7) dX11_settleFor_6 rfl rfl ?_
    refine m_callV (pc' := 10) (A := [.int e]) (rest := []) (b := 214) cl_X11_settleFor_127 dX11_settleFor_7 rfl rfl (Nat.le_of_ble_eq_true rfl) ⟨by decide, by decide⟩ (by decide) rfl rfl rfl rfl ?_
    refine c_ment (s := a_s A) hs ?_
    show mM G mX11_settleFor 10 [some (.ref 214), some (.int e), some (.int l), none, none, none] [.int (bin e 0 ((a_s A) 43 - 1))] S1 (u2 d.1 214 0 0, d.2) (0, 0) Q
    rw [show (bin e 0 ((a_s A) 43 - 1)) = 1 from bin_1 h1]
    refine m_if_eq (tgt := 24) (pc' := 13) dX11_settleFor_10 (by decide) rfl (fun h10 => absurd h10 (by decide)) (fun h10 => ?_)
    refine m_iload_n (pc' := 14) dX11_settleFor_13 rfl rfl ?_
    refine m_iconst (pc' := 15) (v := 0) dX11_settleFor_14 (by decide) rfl ?_
    refine m_sipush (pc' := 18) (v := 4095) dX11_settleFor_15 (by decide) rfl ?_
    refine m_callS (pc' := 21) (A := [.int l, .int 0, .int 4095]) (rest := []) cl_X11_settleFor_40 dX11_settleFor_18 rfl rfl (Nat.le_of_ble_eq_true rfl) ⟨by decide, by decide⟩ rfl rfl ?_
    refine c_in ?_
    show mM G mX11_settleFor 21 [some (.ref 214), some (.int e), some (.int l), none, none, none] [.int (bin l 0 4095)] S1 (u2 d.1 214 0 0, d.2) (0, 0) Q
    rw [show (bin l 0 4095) = 0 from h2]
    refine m_if_ne (tgt := 27) (pc' := 24) dX11_settleFor_21 (by decide) rfl (fun h21 => absurd h21 (by decide)) (fun h21 => ?_)
    refine m_ldc (pc' := 26) dX11_settleFor_24 kc_X11_settleFor_111 rfl ?_
    refine m_iret dX11_settleFor_26 rfl rfl ⟨by decide, by decide⟩ ?_
    exact hQ _ mfr.th hM.th
  obtain ⟨n, hl⟩ := hO.l
  have e43 := hl.2.1
  have hn16 := hl.1
  obtain ⟨t0, ht0, et76⟩ := hO.t
  have hc := hO.c
  have ett : nn (a_s A 76) = t0 := by rw [et76]; exact nn_nI (by omega)
  obtain ⟨e, hen, rfl⟩ := bin_e (n := n) (by omega) (by rw [← e43]; exact h1)
  rw [show vSettle A (nI e) l = stl (a_s A) (et (a_s A) t0 e) (eh (a_s A) t0 (a_h A) e) (pn (a_s A) e) l 8 from by unfold vSettle; rw [if_neg (not_or.mpr ⟨h1, h2⟩), ett, nn_nI (by omega)]] at hQ
  have J : ∀ (n0 : Nat) (q : Nat) (w : Int32) (d1 : Dt) (_ : q + n0 = 8) (_ : mfr d d1) (_ : MM d1 (sU (a_s A) (45 + 2 * e) w, A.2)), mM G mX11_settleFor 40 [some (.ref 214), some (.int (nI e)), some (.int l), some (.int (a_s A (45 + 2 * e))), some (.int (stl (a_s A) (et (a_s A) t0 e) (eh (a_s A) t0 (a_h A) e) (pn (a_s A) e) l q)), some (.int (nI q))] [] S1 d1 (0, 0) Q := by
    intro n0
    induction n0 with
    | zero =>
      intro q w d1 hk hd hM1
      refine m_iload (pc' := 42) dX11_settleFor_40 rfl rfl ?_
      refine m_bipush (pc' := 44) (v := 8) dX11_settleFor_42 (by decide) rfl ?_
      refine m_icmp_ge (tgt := 100) (pc' := 47) dX11_settleFor_44 (by decide) rfl (fun h44 => ?_) (fun h44 => (h44 (nI_le (a := 8) (by omega) (by omega))).elim)
      refine m_aload_n (pc' := 101) dX11_settleFor_100 rfl rfl ?_
      refine m_getR (pc' := 104) fa_X11_settleFor_7 dX11_settleFor_101 (by decide) rfl rfl rfl rfl ?_
      refine m_bipush (pc' := 106) (v := 44) dX11_settleFor_104 (by decide) rfl ?_
      refine m_iconst (pc' := 107) (v := 2) dX11_settleFor_106 (by decide) rfl ?_
      refine m_iload_n (pc' := 108) dX11_settleFor_107 rfl rfl ?_
      refine m_imul (pc' := 109) dX11_settleFor_108 rfl ?_
      refine m_iadd (pc' := 110) dX11_settleFor_109 rfl ?_
      refine m_iconst (pc' := 111) (v := 1) dX11_settleFor_110 (by decide) rfl ?_
      refine m_iadd (pc' := 112) dX11_settleFor_111 rfl ?_
      refine m_iload_n (pc' := 113) dX11_settleFor_112 rfl rfl ?_
      refine m_iastN (pc' := 114) (j := 45 + 2 * e) (L := 408) dX11_settleFor_113 (by decide) rfl rfl (ix_f e) (by omega) (by decide) rfl ?_
      refine m_iload (pc' := 116) dX11_settleFor_114 rfl rfl ?_
      refine m_iret dX11_settleFor_116 rfl rfl ⟨by decide, by decide⟩ ?_
      obtain rfl : q = 8 := by omega
      exact q_i (hQ _ (mfr_put hd) (hM1.put' ((sU_sU (a_s A) (45 + 2 * e) w _).trans (sU_id (a_s A) (45 + 2 * e))))) (rfl)
    | succ n0 ih =>
      intro q w d1 hk hd hM1
      refine m_iload (pc' := 42) dX11_settleFor_40 rfl rfl ?_
      refine m_bipush (pc' := 44) (v := 8) dX11_settleFor_42 (by decide) rfl ?_
      refine m_icmp_ge (tgt := 100) (pc' := 47) dX11_settleFor_44 (by decide) rfl (fun h44 => absurd h44 (nI_ge (b := 8) (by omega) (by omega))) (fun h44 => ?_)
      refine m_iload (pc' := 49) dX11_settleFor_47 rfl rfl ?_
      refine m_ldc (pc' := 51) dX11_settleFor_49 kc_X11_settleFor_196 rfl ?_
      refine m_icmp_ne (tgt := 100) (pc' := 54) dX11_settleFor_51 (by decide) rfl (fun h51 => ?_) (fun h51 => ?_)
      · skip
        refine m_aload_n (pc' := 101) dX11_settleFor_100 rfl rfl ?_
        refine m_getR (pc' := 104) fa_X11_settleFor_7 dX11_settleFor_101 (by decide) rfl rfl rfl rfl ?_
        refine m_bipush (pc' := 106) (v := 44) dX11_settleFor_104 (by decide) rfl ?_
        refine m_iconst (pc' := 107) (v := 2) dX11_settleFor_106 (by decide) rfl ?_
        refine m_iload_n (pc' := 108) dX11_settleFor_107 rfl rfl ?_
        refine m_imul (pc' := 109) dX11_settleFor_108 rfl ?_
        refine m_iadd (pc' := 110) dX11_settleFor_109 rfl ?_
        refine m_iconst (pc' := 111) (v := 1) dX11_settleFor_110 (by decide) rfl ?_
        refine m_iadd (pc' := 112) dX11_settleFor_111 rfl ?_
        refine m_iload_n (pc' := 113) dX11_settleFor_112 rfl rfl ?_
        refine m_iastN (pc' := 114) (j := 45 + 2 * e) (L := 408) dX11_settleFor_113 (by decide) rfl rfl (ix_f e) (by omega) (by decide) rfl ?_
        refine m_iload (pc' := 116) dX11_settleFor_114 rfl rfl ?_
        refine m_iret dX11_settleFor_116 rfl rfl ⟨by decide, by decide⟩ ?_
        exact q_i (hQ _ (mfr_put hd) (hM1.put' ((sU_sU (a_s A) (45 + 2 * e) w _).trans (sU_id (a_s A) (45 + 2 * e))))) (stl_stay8 (by omega) h51)
      · skip
        refine m_aload_n (pc' := 55) dX11_settleFor_54 rfl rfl ?_
        refine m_getR (pc' := 58) fa_X11_settleFor_7 dX11_settleFor_55 (by decide) rfl rfl rfl rfl ?_
        refine m_bipush (pc' := 60) (v := 44) dX11_settleFor_58 (by decide) rfl ?_
        refine m_iconst (pc' := 61) (v := 2) dX11_settleFor_60 (by decide) rfl ?_
        refine m_iload_n (pc' := 62) dX11_settleFor_61 rfl rfl ?_
        refine m_imul (pc' := 63) dX11_settleFor_62 rfl ?_
        refine m_iadd (pc' := 64) dX11_settleFor_63 rfl ?_
        refine m_iconst (pc' := 65) (v := 1) dX11_settleFor_64 (by decide) rfl ?_
        refine m_iadd (pc' := 66) dX11_settleFor_65 rfl ?_
        refine m_iload (pc' := 68) dX11_settleFor_66 rfl rfl ?_
        refine m_iastN (pc' := 69) (j := 45 + 2 * e) (L := 408) dX11_settleFor_68 (by decide) rfl rfl (ix_f e) (by omega) (by decide) rfl ?_
        refine m_aload_n (pc' := 70) dX11_settleFor_69 rfl rfl ?_
        refine m_iload_n (pc' := 71) dX11_settleFor_70 rfl rfl ?_
        refine m_callV (pc' := 74) (A := [.int (nI e)]) (rest := []) (b := 214) cl_X11_settleFor_204 dX11_settleFor_71 rfl rfl (Nat.le_of_ble_eq_true rfl) ⟨by decide, by decide⟩ (by decide) rfl rfl rfl rfl ?_
        refine c_mcoTo (n := n) (t0 := t0) (e := e) (h0 := a_h A) (s := (sU (a_s A) (45 + 2 * e) (nI q))) ((u2_row hM1.1).trans (sU_sU (a_s A) (45 + 2 * e) w (nI q))) (fun c hc8 => okC_lo (lo43_set (a_s A) e (nI q)) hc8 (hc c hc8)) (okL_set hl (by omega)) ((sU_ne (a_s A) (nI q) (by omega)).trans et76) (by omega) hen hM1.2.2.2.2.2.1 (fun f f0 f10 f9 f11 f12 f13 => ?_)
        show mM G mX11_settleFor 74 [some (.ref 214), some (.int (nI e)), some (.int l), some (.int (a_s A (45 + 2 * e))), some (.int (stl (a_s A) (et (a_s A) t0 e) (eh (a_s A) t0 (a_h A) e) (pn (a_s A) e) l q)), some (.int (nI q))] [] S1 f (0, 0) Q
        have fM : MM f ((sU (a_s A) (45 + 2 * e) (nI q)), A.2) := (hM1.put' (sU_sU (a_s A) (45 + 2 * e) w (nI q))).sim f0
        have fm : mfr d f := (mfr_put hd).trans (sim_mf f0)
        refine m_aload_n (pc' := 75) dX11_settleFor_74 rfl rfl ?_
        refine m_getI (pc' := 78) fa_X11_settleFor_83 dX11_settleFor_75 (by decide) rfl rfl rfl ?_
        rw [show (f.1 214 13) = (xe (a_s A) (pn (a_s A) e) q (et (a_s A) t0 e) (eh (a_s A) t0 (a_h A) e)) from f13.trans (ee_set hl hen (by omega))]
        refine m_callS (pc' := 81) (A := [.int (xe (a_s A) (pn (a_s A) e) q (et (a_s A) t0 e) (eh (a_s A) t0 (a_h A) e))]) (rest := []) cl_X11_settleFor_100 dX11_settleFor_78 rfl rfl (Nat.le_of_ble_eq_true rfl) ⟨by decide, by decide⟩ rfl rfl ?_
        refine c_size ?_
        show mM G mX11_settleFor 81 [some (.ref 214), some (.int (nI e)), some (.int l), some (.int (a_s A (45 + 2 * e))), some (.int (stl (a_s A) (et (a_s A) t0 e) (eh (a_s A) t0 (a_h A) e) (pn (a_s A) e) l q)), some (.int (nI q))] [.int (siz (xe (a_s A) (pn (a_s A) e) q (et (a_s A) t0 e) (eh (a_s A) t0 (a_h A) e)))] S1 f (0, 0) Q
        refine m_iload_n (pc' := 82) dX11_settleFor_81 rfl rfl ?_
        refine m_icmp_gt (tgt := 90) (pc' := 85) dX11_settleFor_82 (by decide) rfl (fun h82 => ?_) (fun h82 => ?_)
        · skip
          refine m_ldc (pc' := 92) dX11_settleFor_90 kc_X11_settleFor_196 rfl ?_
          refine m_istore (pc' := 94) dX11_settleFor_92 (by decide) rfl rfl ?_
          refine m_iinc (pc' := 97) dX11_settleFor_94 rfl (by decide) (v := nI (q + 1)) (nI_1 q) rfl rfl ?_
          refine m_goto (tgt := 40) dX11_settleFor_97 (by decide) ?_
          have e9 := ih (q + 1) (nI q) f (by omega) fm fM
          rw [show stl (a_s A) (et (a_s A) t0 e) (eh (a_s A) t0 (a_h A) e) (pn (a_s A) e) l (q + 1) = -10000009 by
            show (if stl (a_s A) (et (a_s A) t0 e) (eh (a_s A) t0 (a_h A) e) (pn (a_s A) e) l q = -10000009 then (if siz (xe (a_s A) (pn (a_s A) e) q (et (a_s A) t0 e) (eh (a_s A) t0 (a_h A) e)) ≤ l then nI q else -10000009) else stl (a_s A) (et (a_s A) t0 e) (eh (a_s A) t0 (a_h A) e) (pn (a_s A) e) l q) = _
            rw [if_pos h51, if_neg (Int32.not_le.mpr h82)]] at e9
          exact e9
        · skip
          refine m_iload (pc' := 87) dX11_settleFor_85 rfl rfl ?_
          refine m_goto (tgt := 92) dX11_settleFor_87 (by decide) ?_
          refine m_istore (pc' := 94) dX11_settleFor_92 (by decide) rfl rfl ?_
          refine m_iinc (pc' := 97) dX11_settleFor_94 rfl (by decide) (v := nI (q + 1)) (nI_1 q) rfl rfl ?_
          refine m_goto (tgt := 40) dX11_settleFor_97 (by decide) ?_
          have e9 := ih (q + 1) (nI q) f (by omega) fm fM
          rw [show stl (a_s A) (et (a_s A) t0 e) (eh (a_s A) t0 (a_h A) e) (pn (a_s A) e) l (q + 1) = nI q by
            show (if stl (a_s A) (et (a_s A) t0 e) (eh (a_s A) t0 (a_h A) e) (pn (a_s A) e) l q = -10000009 then (if siz (xe (a_s A) (pn (a_s A) e) q (et (a_s A) t0 e) (eh (a_s A) t0 (a_h A) e)) ≤ l then nI q else -10000009) else stl (a_s A) (et (a_s A) t0 e) (eh (a_s A) t0 (a_h A) e) (pn (a_s A) e) l q) = _
            rw [if_pos h51, if_pos (Int32.not_lt.mp h82)]] at e9
          exact e9
  refine mC_of (by decide +kernel) ⟨_, rfl⟩ (Nat.le_of_ble_eq_true rfl) ?_
  show mM G mX11_settleFor 0 [some (.ref 214), some (.int (nI e)), some (.int l), none, none, none] [] S1 d (0, 0) Q
  refine m_aload_n (pc' := 1) dX11_settleFor_0 rfl rfl ?_
  refine m_iconst (pc' := 2) (v := 0) dX11_settleFor_1 (by decide) rfl ?_
  refine m_putI (pc' := 5) (ty := .int) fa_X11_settleFor_29 dX11_settleFor_2 (by decide +kernel) rfl rfl (by decide) rfl rfl rfl ?_
  refine m_aload_n (pc' := 6) dX11_settleFor_5 rfl rfl ?_
  refine m_iload_n (pc' := 7) dX11_settleFor_6 rfl rfl ?_
  refine m_callV (pc' := 10) (A := [.int (nI e)]) (rest := []) (b := 214) cl_X11_settleFor_127 dX11_settleFor_7 rfl rfl (Nat.le_of_ble_eq_true rfl) ⟨by decide, by decide⟩ (by decide) rfl rfl rfl rfl ?_
  refine c_ment (s := a_s A) hs ?_
  show mM G mX11_settleFor 10 [some (.ref 214), some (.int (nI e)), some (.int l), none, none, none] [.int (bin (nI e) 0 ((a_s A) 43 - 1))] S1 (u2 d.1 214 0 0, d.2) (0, 0) Q
  rw [show (bin (nI e) 0 ((a_s A) 43 - 1)) = 1 from bin_1 h1]
  refine m_if_eq (tgt := 24) (pc' := 13) dX11_settleFor_10 (by decide) rfl (fun h10 => absurd h10 (by decide)) (fun h10 => ?_)
  refine m_iload_n (pc' := 14) dX11_settleFor_13 rfl rfl ?_
  refine m_iconst (pc' := 15) (v := 0) dX11_settleFor_14 (by decide) rfl ?_
  refine m_sipush (pc' := 18) (v := 4095) dX11_settleFor_15 (by decide) rfl ?_
  refine m_callS (pc' := 21) (A := [.int l, .int 0, .int 4095]) (rest := []) cl_X11_settleFor_40 dX11_settleFor_18 rfl rfl (Nat.le_of_ble_eq_true rfl) ⟨by decide, by decide⟩ rfl rfl ?_
  refine c_in ?_
  show mM G mX11_settleFor 21 [some (.ref 214), some (.int (nI e)), some (.int l), none, none, none] [.int (bin l 0 4095)] S1 (u2 d.1 214 0 0, d.2) (0, 0) Q
  rw [show (bin l 0 4095) = 1 from bin_1 h2]
  refine m_if_ne (tgt := 27) (pc' := 24) dX11_settleFor_21 (by decide) rfl (fun h21 => ?_) (fun h21 => absurd h21 (by decide))
  refine m_aload_n (pc' := 28) dX11_settleFor_27 rfl rfl ?_
  refine m_iload_n (pc' := 29) dX11_settleFor_28 rfl rfl ?_
  refine m_callV (pc' := 32) (A := [.int (nI e)]) (rest := []) (b := 214) cl_X11_settleFor_93 dX11_settleFor_29 rfl rfl (Nat.le_of_ble_eq_true rfl) ⟨by decide, by decide⟩ (by decide) rfl rfl rfl rfl ?_
  refine c_msettle (i := e) (s := a_s A) hs (by omega) ?_
  show mM G mX11_settleFor 32 [some (.ref 214), some (.int (nI e)), some (.int l), none, none, none] [.int ((a_s A) (45 + 2 * e))] S1 (u2 d.1 214 0 0, d.2) (0, 0) Q
  refine m_istore_n (pc' := 33) dX11_settleFor_32 (by decide) rfl rfl ?_
  refine m_ldc (pc' := 35) dX11_settleFor_33 kc_X11_settleFor_196 rfl ?_
  refine m_istore (pc' := 37) dX11_settleFor_35 (by decide) rfl rfl ?_
  refine m_iconst (pc' := 38) (v := 0) dX11_settleFor_37 (by decide) rfl ?_
  refine m_istore (pc' := 40) dX11_settleFor_38 (by decide) rfl rfl ?_
  exact J 8 0 (a_s A (45 + 2 * e)) _ (by omega) mfr.th (by rw [sU_id]; exact hM.th)
set_option maxHeartbeats 4000000 in
set_option maxRecDepth 100000 in
theorem p_groundsNeeded {A : AS}  (hM : MM d A) (hO : OK A) (hQ : ∀ d', mfr d d' → MM d' A → Q (some (.int (vGrounds A))) S1 d') : mC G mX11_groundsNeeded [.ref 214] S1 d Q := by
  have hs : d.1 215 = a_s A := hM.1
  obtain ⟨n, hl⟩ := hO.l
  have e43 := hl.2.1
  have hn16 := hl.1
  obtain ⟨t0, ht0, et76⟩ := hO.t
  have hc := hO.c
  have ett : nn (a_s A 76) = t0 := by rw [et76]; exact nn_nI (by omega)
  have enn : nn (a_s A 43) = n := by rw [e43]; exact nn_nI (by omega)
  rw [show vGrounds A = (gns (a_s A) t0 (a_h A) n).2.2 from by unfold vGrounds; rw [ett, enn]] at hQ
  have J : ∀ (n0 : Nat) (i : Nat) (d1 : Dt) (_ : i + n0 = n) (_ : mfr d d1) (_ : MM d1 A) (_ : d1.1 214 10 = nI (gns (a_s A) t0 (a_h A) i).1) (_ : d1.2 214 9 = (gns (a_s A) t0 (a_h A) i).2.1), mM G mX11_groundsNeeded 13 [some (.ref 214), some (.int ((gns (a_s A) t0 (a_h A) i).2.2)), some (.int (nI i)), none, none] [] S1 d1 (0, 0) Q := by
    intro n0
    induction n0 with
    | zero =>
      intro i d1 hk hd hM1 h10 h9
      have hs : d1.1 215 = a_s A := hM1.1
      refine m_iload_n (pc' := 14) dX11_groundsNeeded_13 rfl rfl ?_
      refine m_aload_n (pc' := 15) dX11_groundsNeeded_14 rfl rfl ?_
      refine m_getR (pc' := 18) fa_X11_groundsNeeded_7 dX11_groundsNeeded_15 (by decide) rfl rfl rfl rfl ?_
      refine m_bipush (pc' := 20) (v := 43) dX11_groundsNeeded_18 (by decide) rfl ?_
      refine m_ialdN (pc' := 21) (j := 43) (L := 408) dX11_groundsNeeded_20 (by decide) rfl rfl (rfl) (by decide) (by decide) rfl ?_
      rw [show (d1.1 215 43) = ((a_s A) 43) from congrFun hs 43]
      refine m_icmp_ge (tgt := 100) (pc' := 24) dX11_groundsNeeded_21 (by decide) rfl (fun h21 => ?_) (fun h21 => (h21 (by rw [e43]; exact nI_le (by omega) (by omega))).elim)
      refine m_iload_n (pc' := 101) dX11_groundsNeeded_100 rfl rfl ?_
      refine m_iret dX11_groundsNeeded_101 rfl rfl ⟨by decide, by decide⟩ ?_
      obtain rfl : i = n := by omega
      exact hQ d1 hd hM1
    | succ n0 ih =>
      intro i d1 hk hd hM1 h10 h9
      have hs : d1.1 215 = a_s A := hM1.1
      refine m_iload_n (pc' := 14) dX11_groundsNeeded_13 rfl rfl ?_
      refine m_aload_n (pc' := 15) dX11_groundsNeeded_14 rfl rfl ?_
      refine m_getR (pc' := 18) fa_X11_groundsNeeded_7 dX11_groundsNeeded_15 (by decide) rfl rfl rfl rfl ?_
      refine m_bipush (pc' := 20) (v := 43) dX11_groundsNeeded_18 (by decide) rfl ?_
      refine m_ialdN (pc' := 21) (j := 43) (L := 408) dX11_groundsNeeded_20 (by decide) rfl rfl (rfl) (by decide) (by decide) rfl ?_
      rw [show (d1.1 215 43) = ((a_s A) 43) from congrFun hs 43]
      refine m_icmp_ge (tgt := 100) (pc' := 24) dX11_groundsNeeded_21 (by decide) rfl (fun h21 => absurd h21 (by rw [e43]; exact nI_ge (by omega) (by omega))) (fun h21 => ?_)
      refine m_aload_n (pc' := 25) dX11_groundsNeeded_24 rfl rfl ?_
      refine m_getF (pc' := 28) fa_X11_groundsNeeded_63 dX11_groundsNeeded_25 (by decide) rfl rfl rfl ?_
      rw [show (d1.2 214 9) = ((gns (a_s A) t0 (a_h A) i).2.1) from h9]
      refine m_fstore_n (pc' := 29) dX11_groundsNeeded_28 (by decide) rfl rfl ?_
      refine m_aload_n (pc' := 30) dX11_groundsNeeded_29 rfl rfl ?_
      refine m_getI (pc' := 33) fa_X11_groundsNeeded_66 dX11_groundsNeeded_30 (by decide) rfl rfl rfl ?_
      rw [show (d1.1 214 10) = (nI (gns (a_s A) t0 (a_h A) i).1) from h10]
      refine m_istore (pc' := 35) dX11_groundsNeeded_33 (by decide) rfl rfl ?_
      refine m_aload_n (pc' := 36) dX11_groundsNeeded_35 rfl rfl ?_
      refine m_aload_n (pc' := 37) dX11_groundsNeeded_36 rfl rfl ?_
      refine m_iload_n (pc' := 38) dX11_groundsNeeded_37 rfl rfl ?_
      refine m_callV (pc' := 41) (A := [.int (nI i)]) (rest := [.ref 214]) (b := 214) cl_X11_groundsNeeded_89 dX11_groundsNeeded_38 rfl rfl (Nat.le_of_ble_eq_true rfl) ⟨by decide, by decide⟩ (by decide) rfl rfl rfl rfl ?_
      refine c_mplace (i := i) (s := a_s A) hs (by omega) ?_
      show mM G mX11_groundsNeeded 41 [some (.ref 214), some (.int ((gns (a_s A) t0 (a_h A) i).2.2)), some (.int (nI i)), some (.float ((gns (a_s A) t0 (a_h A) i).2.1)), some (.int (nI (gns (a_s A) t0 (a_h A) i).1))] [.int ((a_s A) (44 + 2 * i)), .ref 214] S1 d1 (0, 0) Q
      rw [show ((a_s A) (44 + 2 * i)) = (nI (pn (a_s A) i)) from (okL_p hl (show i < n by omega)).1]
      refine m_aload_n (pc' := 42) dX11_groundsNeeded_41 rfl rfl ?_
      refine m_iload_n (pc' := 43) dX11_groundsNeeded_42 rfl rfl ?_
      refine m_callV (pc' := 46) (A := [.int (nI i)]) (rest := [.int (nI (pn (a_s A) i)), .ref 214]) (b := 214) cl_X11_groundsNeeded_93 dX11_groundsNeeded_43 rfl rfl (Nat.le_of_ble_eq_true rfl) ⟨by decide, by decide⟩ (by decide) rfl rfl rfl rfl ?_
      refine c_msettle (i := i) (s := a_s A) hs (by omega) ?_
      show mM G mX11_groundsNeeded 46 [some (.ref 214), some (.int ((gns (a_s A) t0 (a_h A) i).2.2)), some (.int (nI i)), some (.float ((gns (a_s A) t0 (a_h A) i).2.1)), some (.int (nI (gns (a_s A) t0 (a_h A) i).1))] [.int ((a_s A) (45 + 2 * i)), .int (nI (pn (a_s A) i)), .ref 214] S1 d1 (0, 0) Q
      rw [show ((a_s A) (45 + 2 * i)) = (nI (qn (a_s A) i)) from (okL_q hl (show i < n by omega)).1]
      refine m_callV (pc' := 49) (A := [.int (nI (pn (a_s A) i)), .int (nI (qn (a_s A) i))]) (rest := []) (b := 214) cl_X11_groundsNeeded_96 dX11_groundsNeeded_46 rfl rfl (Nat.le_of_ble_eq_true rfl) ⟨by decide, by decide⟩ (by decide) rfl rfl rfl rfl ?_
      refine c_mcarry (p := (pn (a_s A) i)) (q := (qn (a_s A) i)) (t := (gns (a_s A) t0 (a_h A) i).1) (h := (gns (a_s A) t0 (a_h A) i).2.1) (s := a_s A) hs (pok_of hc (okL_p hl (show i < n by omega)).2) (okL_q hl (show i < n by omega)).2 (by have := gns_le (t0 := t0) (h0 := a_h A) hl i (by omega); omega) h10 h9 (fun d2 g0 g10 g9 g11 g12 g13 => ?_)
      show mM G mX11_groundsNeeded 49 [some (.ref 214), some (.int ((gns (a_s A) t0 (a_h A) i).2.2)), some (.int (nI i)), some (.float ((gns (a_s A) t0 (a_h A) i).2.1)), some (.int (nI (gns (a_s A) t0 (a_h A) i).1))] [] S1 d2 (0, 0) Q
      have hs := g0.s hs
      refine m_aload_n (pc' := 50) dX11_groundsNeeded_49 rfl rfl ?_
      refine m_getI (pc' := 53) fa_X11_groundsNeeded_80 dX11_groundsNeeded_50 (by decide) rfl rfl rfl ?_
      rw [show (d2.1 214 12) = (xc (a_s A) (pn (a_s A) i) (qn (a_s A) i) (gns (a_s A) t0 (a_h A) i).1 (gns (a_s A) t0 (a_h A) i).2.1) from g12]
      refine m_if_eq (tgt := 94) (pc' := 56) dX11_groundsNeeded_53 (by decide) rfl (fun h53 => ?_) (fun h53 => ?_)
      · skip
        refine m_iinc (pc' := 97) dX11_groundsNeeded_94 rfl (by decide) (v := nI (i + 1)) (nI_1 i) rfl rfl ?_
        refine m_goto (tgt := 13) dX11_groundsNeeded_97 (by decide) ?_
        refine m_drop 3 (lo' := [some (.ref 214), some (.int ((gns (a_s A) t0 (a_h A) i).2.2)), some (.int (nI (i + 1))), none, some (.int (nI (gns (a_s A) t0 (a_h A) i).1))]) rfl ?_
        refine m_drop 4 (lo' := [some (.ref 214), some (.int ((gns (a_s A) t0 (a_h A) i).2.2)), some (.int (nI (i + 1))), none, none]) rfl ?_
        have eg : gns (a_s A) t0 (a_h A) (i + 1) = ((gns (a_s A) t0 (a_h A) i).1 + (qn (a_s A) i + 1), xh (a_s A) (pn (a_s A) i) (qn (a_s A) i) (gns (a_s A) t0 (a_h A) i).1 (gns (a_s A) t0 (a_h A) i).2.1, (gns (a_s A) t0 (a_h A) i).2.2) := if_pos h53
        have e9 := ih (i + 1) d2 (by omega) (hd.trans (sim_mf g0)) (hM1.sim g0) (by rw [eg]; exact g10) (by rw [eg]; exact g9)
        rw [eg] at e9
        exact e9
      · skip
        refine m_iinc (pc' := 59) dX11_groundsNeeded_56 rfl (by decide) (v := (gns (a_s A) t0 (a_h A) i).2.2 + 1) rfl rfl rfl ?_
        refine m_aload_n (pc' := 60) dX11_groundsNeeded_59 rfl rfl ?_
        refine m_aload_n (pc' := 61) dX11_groundsNeeded_60 rfl rfl ?_
        refine m_fload_n (pc' := 62) dX11_groundsNeeded_61 rfl rfl ?_
        refine m_bipush (pc' := 64) (v := 8) dX11_groundsNeeded_62 (by decide) rfl ?_
        refine m_iload (pc' := 66) dX11_groundsNeeded_64 rfl rfl ?_
        refine m_callV (pc' := 69) (A := [.float ((gns (a_s A) t0 (a_h A) i).2.1), .int 8, .int (nI (gns (a_s A) t0 (a_h A) i).1)]) (rest := [.ref 214]) (b := 214) cl_X11_groundsNeeded_69 dX11_groundsNeeded_66 rfl rfl (Nat.le_of_ble_eq_true rfl) ⟨by decide, by decide⟩ (by decide) rfl rfl rfl rfl ?_
        refine c_mslot (s := a_s A) hs (pok_of hc (show 8 ≤ 9 by decide)) ?_
        show mM G mX11_groundsNeeded 69 [some (.ref 214), some (.int ((gns (a_s A) t0 (a_h A) i).2.2 + 1)), some (.int (nI i)), some (.float ((gns (a_s A) t0 (a_h A) i).2.1)), some (.int (nI (gns (a_s A) t0 (a_h A) i).1))] [.float (slt (a_s A) 8 (nI (gns (a_s A) t0 (a_h A) i).1) ((gns (a_s A) t0 (a_h A) i).2.1)), .ref 214] S1 d2 (0, 0) Q
        refine m_putFl (pc' := 72) fa_X11_groundsNeeded_63 dX11_groundsNeeded_69 (by decide) rfl rfl rfl ?_
        refine m_aload_n (pc' := 73) dX11_groundsNeeded_72 rfl rfl ?_
        refine m_iload (pc' := 75) dX11_groundsNeeded_73 rfl rfl ?_
        refine m_iconst (pc' := 76) (v := 1) dX11_groundsNeeded_75 (by decide) rfl ?_
        refine m_iadd (pc' := 77) dX11_groundsNeeded_76 rfl ?_
        rw [show ((nI (gns (a_s A) t0 (a_h A) i).1) + 1) = (nI ((gns (a_s A) t0 (a_h A) i).1 + 1)) from nI_1 _]
        refine m_putI (pc' := 80) (ty := .int) fa_X11_groundsNeeded_66 dX11_groundsNeeded_77 (by decide +kernel) rfl rfl (by decide) rfl rfl rfl ?_
        refine m_aload_n (pc' := 81) dX11_groundsNeeded_80 rfl rfl ?_
        refine m_aload_n (pc' := 82) dX11_groundsNeeded_81 rfl rfl ?_
        refine m_iload_n (pc' := 83) dX11_groundsNeeded_82 rfl rfl ?_
        refine m_callV (pc' := 86) (A := [.int (nI i)]) (rest := [.ref 214]) (b := 214) cl_X11_groundsNeeded_89 dX11_groundsNeeded_83 rfl rfl (Nat.le_of_ble_eq_true rfl) ⟨by decide, by decide⟩ (by decide) rfl rfl rfl rfl ?_
        refine c_mplace (i := i) (s := a_s A) hs (by omega) ?_
        show mM G mX11_groundsNeeded 86 [some (.ref 214), some (.int ((gns (a_s A) t0 (a_h A) i).2.2 + 1)), some (.int (nI i)), some (.float ((gns (a_s A) t0 (a_h A) i).2.1)), some (.int (nI (gns (a_s A) t0 (a_h A) i).1))] [.int ((a_s A) (44 + 2 * i)), .ref 214] S1 (u2 d2.1 214 10 (nI ((gns (a_s A) t0 (a_h A) i).1 + 1)), u2 d2.2 214 9 (slt (a_s A) 8 (nI (gns (a_s A) t0 (a_h A) i).1) ((gns (a_s A) t0 (a_h A) i).2.1))) (0, 0) Q
        rw [show ((a_s A) (44 + 2 * i)) = (nI (pn (a_s A) i)) from (okL_p hl (show i < n by omega)).1]
        refine m_aload_n (pc' := 87) dX11_groundsNeeded_86 rfl rfl ?_
        refine m_iload_n (pc' := 88) dX11_groundsNeeded_87 rfl rfl ?_
        refine m_callV (pc' := 91) (A := [.int (nI i)]) (rest := [.int (nI (pn (a_s A) i)), .ref 214]) (b := 214) cl_X11_groundsNeeded_93 dX11_groundsNeeded_88 rfl rfl (Nat.le_of_ble_eq_true rfl) ⟨by decide, by decide⟩ (by decide) rfl rfl rfl rfl ?_
        refine c_msettle (i := i) (s := a_s A) hs (by omega) ?_
        show mM G mX11_groundsNeeded 91 [some (.ref 214), some (.int ((gns (a_s A) t0 (a_h A) i).2.2 + 1)), some (.int (nI i)), some (.float ((gns (a_s A) t0 (a_h A) i).2.1)), some (.int (nI (gns (a_s A) t0 (a_h A) i).1))] [.int ((a_s A) (45 + 2 * i)), .int (nI (pn (a_s A) i)), .ref 214] S1 (u2 d2.1 214 10 (nI ((gns (a_s A) t0 (a_h A) i).1 + 1)), u2 d2.2 214 9 (slt (a_s A) 8 (nI (gns (a_s A) t0 (a_h A) i).1) ((gns (a_s A) t0 (a_h A) i).2.1))) (0, 0) Q
        rw [show ((a_s A) (45 + 2 * i)) = (nI (qn (a_s A) i)) from (okL_q hl (show i < n by omega)).1]
        refine m_callV (pc' := 94) (A := [.int (nI (pn (a_s A) i)), .int (nI (qn (a_s A) i))]) (rest := []) (b := 214) cl_X11_groundsNeeded_96 dX11_groundsNeeded_91 rfl rfl (Nat.le_of_ble_eq_true rfl) ⟨by decide, by decide⟩ (by decide) rfl rfl rfl rfl ?_
        refine c_mcarry (p := (pn (a_s A) i)) (q := (qn (a_s A) i)) (t := ((gns (a_s A) t0 (a_h A) i).1 + 1)) (h := (slt (a_s A) 8 (nI (gns (a_s A) t0 (a_h A) i).1) (gns (a_s A) t0 (a_h A) i).2.1)) (s := a_s A) hs (pok_of hc (okL_p hl (show i < n by omega)).2) (okL_q hl (show i < n by omega)).2 (by have := gns_le (t0 := t0) (h0 := a_h A) hl i (by omega); omega) (by simp only [u2_same]; try rfl) (by simp only [u2_same]; try rfl) (fun d3 k0 k10 k9 k11 k12 k13 => ?_)
        show mM G mX11_groundsNeeded 94 [some (.ref 214), some (.int ((gns (a_s A) t0 (a_h A) i).2.2 + 1)), some (.int (nI i)), some (.float ((gns (a_s A) t0 (a_h A) i).2.1)), some (.int (nI (gns (a_s A) t0 (a_h A) i).1))] [] S1 d3 (0, 0) Q
        have hs := k0.s hs
        refine m_iinc (pc' := 97) dX11_groundsNeeded_94 rfl (by decide) (v := nI (i + 1)) (nI_1 i) rfl rfl ?_
        refine m_goto (tgt := 13) dX11_groundsNeeded_97 (by decide) ?_
        refine m_drop 3 (lo' := [some (.ref 214), some (.int ((gns (a_s A) t0 (a_h A) i).2.2 + 1)), some (.int (nI (i + 1))), none, some (.int (nI (gns (a_s A) t0 (a_h A) i).1))]) rfl ?_
        refine m_drop 4 (lo' := [some (.ref 214), some (.int ((gns (a_s A) t0 (a_h A) i).2.2 + 1)), some (.int (nI (i + 1))), none, none]) rfl ?_
        have eg : gns (a_s A) t0 (a_h A) (i + 1) = ((gns (a_s A) t0 (a_h A) i).1 + 1 + (qn (a_s A) i + 1), xh (a_s A) (pn (a_s A) i) (qn (a_s A) i) ((gns (a_s A) t0 (a_h A) i).1 + 1) (slt (a_s A) 8 (nI (gns (a_s A) t0 (a_h A) i).1) (gns (a_s A) t0 (a_h A) i).2.1), (gns (a_s A) t0 (a_h A) i).2.2 + 1) := if_neg h53
        have z0 : simD d2 (u2 d2.1 214 10 (nI ((gns (a_s A) t0 (a_h A) i).1 + 1)), u2 d2.2 214 9 (slt (a_s A) 8 (nI (gns (a_s A) t0 (a_h A) i).1) (gns (a_s A) t0 (a_h A) i).2.1)) := (fr.rfl.f _ (by decide)).i _ (by decide)
        have e9 := ih (i + 1) d3 (by omega) (((hd.trans (sim_mf g0)).trans (sim_mf z0)).trans (sim_mf k0)) (((hM1.sim g0).sim z0).sim k0) (by rw [eg]; exact k10) (by rw [eg]; exact k9)
        rw [eg] at e9
        exact e9
  refine mC_of (by decide +kernel) ⟨_, rfl⟩ (Nat.le_of_ble_eq_true rfl) ?_
  show mM G mX11_groundsNeeded 0 [some (.ref 214), none, none, none, none] [] S1 d (0, 0) Q
  refine m_aload_n (pc' := 1) dX11_groundsNeeded_0 rfl rfl ?_
  refine m_iconst (pc' := 2) (v := 0) dX11_groundsNeeded_1 (by decide) rfl ?_
  refine m_putI (pc' := 5) (ty := .int) fa_X11_groundsNeeded_29 dX11_groundsNeeded_2 (by decide +kernel) rfl rfl (by decide) rfl rfl rfl ?_
  refine m_iconst (pc' := 6) (v := 0) dX11_groundsNeeded_5 (by decide) rfl ?_
  refine m_istore_n (pc' := 7) dX11_groundsNeeded_6 (by decide) rfl rfl ?_
  refine m_aload_n (pc' := 8) dX11_groundsNeeded_7 rfl rfl ?_
  refine m_callV (pc' := 11) (A := []) (rest := []) (b := 214) cl_X11_groundsNeeded_86 dX11_groundsNeeded_8 rfl rfl (Nat.le_of_ble_eq_true rfl) ⟨by decide, by decide⟩ (by decide) rfl rfl rfl rfl ?_
  refine c_mbegin (s := a_s A) hs (fun b b0 b10 b9 => ?_)
  show mM G mX11_groundsNeeded 11 [some (.ref 214), some (.int 0), none, none, none] [] S1 b (0, 0) Q
  refine m_iconst (pc' := 12) (v := 0) dX11_groundsNeeded_11 (by decide) rfl ?_
  refine m_istore_n (pc' := 13) dX11_groundsNeeded_12 (by decide) rfl rfl ?_
  exact J n 0 b (by omega) (mfr.th.trans (sim_mf b0)) (hM.th.sim b0) (b10.trans et76) (b9.trans hM.2.2.2.2.2.1)
set_option maxHeartbeats 4000000 in
set_option maxRecDepth 100000 in
theorem c_mnote {s : SS} {cnt p q tm : Nat} {r c e : Int32} (hs : d.1 215 = s) (h77 : s 77 = nI cnt) (hcnt : cnt ≤ 32) (hp : p ≤ 9) (h10 : d.1 214 10 = nI (tm + 1)) (h11 : d.1 214 11 = r) (h12 : d.1 214 12 = c) (h13 : d.1 214 13 = e) (hQ : ∀ d', fr (rE 215) nE d d' → d'.1 215 = ntS s cnt p q (nI tm) r c e → Q none S1 d') : mC G mX11_note [.ref 214, .int (nI p), .int (nI q)] S1 d Q := by
  have J5 : ∀ (s1 : SS) (d1 : Dt) (_ : fr (rE 215) nE d d1) (_ : d1.1 215 = s1) (_ : ∀ d', fr (rE 215) nE d d' → d'.1 215 = n5 s1 c → Q none S1 d'), mM G mX11_note 188 [some (.ref 214), some (.int (nI p)), some (.int (nI q)), none] [] S1 d1 (0, 0) Q := by
    intro s1 d1 hd h8 hq
    refine m_aload_n (pc' := 189) dX11_note_188 rfl rfl ?_
    refine m_getR (pc' := 192) fa_X11_note_7 dX11_note_189 (by decide) rfl rfl rfl rfl ?_
    refine m_bipush (pc' := 194) (v := 93) dX11_note_192 (by decide) rfl ?_
    refine m_dup2 (pc' := 195) dX11_note_194 rfl ?_
    refine m_ialdN (pc' := 196) (j := 93) (L := 408) dX11_note_195 (by decide) rfl rfl (rfl) (by decide) (by decide) rfl ?_
    rw [show (d1.1 215 93) = (s1 93) from congrFun h8 93]
    refine m_aload_n (pc' := 197) dX11_note_196 rfl rfl ?_
    refine m_getI (pc' := 200) fa_X11_note_80 dX11_note_197 (by decide) rfl rfl rfl ?_
    rw [show (d1.1 214 12) = c from (hd.1 214 12 (show ¬ (214 = 215) by decide)).trans h12]
    refine m_callS (pc' := 203) (A := [.int c]) (rest := [.int (s1 93), .int 93, .ref 215]) cl_X11_note_100 dX11_note_200 rfl rfl (Nat.le_of_ble_eq_true rfl) ⟨by decide, by decide⟩ rfl rfl ?_
    refine c_size ?_
    show mM G mX11_note 203 [some (.ref 214), some (.int (nI p)), some (.int (nI q)), none] [.int (siz c), .int (s1 93), .int 93, .ref 215] S1 d1 (0, 0) Q
    refine m_iadd (pc' := 204) dX11_note_203 rfl ?_
    refine m_iastN (pc' := 205) (j := 93) (L := 408) dX11_note_204 (by decide) rfl rfl (rfl) (by decide) (by decide) rfl ?_
    refine m_vret dX11_note_205 rfl ⟨by decide, by decide⟩ ?_
    exact hq _ (hd.i _ rfl) (u2_row h8)
  have J4 : ∀ (s1 : SS) (d1 : Dt) (_ : fr (rE 215) nE d d1) (_ : d1.1 215 = s1) (_ : ∀ d', fr (rE 215) nE d d' → d'.1 215 = n4 s1 c → Q none S1 d'), mM G mX11_note 177 [some (.ref 214), some (.int (nI p)), some (.int (nI q)), none] [] S1 d1 (0, 0) Q := by
    intro s1 d1 hd h8 hq
    refine m_aload_n (pc' := 178) dX11_note_177 rfl rfl ?_
    refine m_getR (pc' := 181) fa_X11_note_7 dX11_note_178 (by decide) rfl rfl rfl rfl ?_
    refine m_bipush (pc' := 183) (v := 92) dX11_note_181 (by decide) rfl ?_
    refine m_dup2 (pc' := 184) dX11_note_183 rfl ?_
    refine m_ialdN (pc' := 185) (j := 92) (L := 408) dX11_note_184 (by decide) rfl rfl (rfl) (by decide) (by decide) rfl ?_
    rw [show (d1.1 215 92) = (s1 92) from congrFun h8 92]
    refine m_iconst (pc' := 186) (v := 1) dX11_note_185 (by decide) rfl ?_
    refine m_iadd (pc' := 187) dX11_note_186 rfl ?_
    refine m_iastN (pc' := 188) (j := 92) (L := 408) dX11_note_187 (by decide) rfl rfl (rfl) (by decide) (by decide) rfl ?_
    exact J5 _ _ (hd.i _ rfl) (u2_row h8) hq
  have J3 : ∀ (s1 : SS) (d1 : Dt) (_ : fr (rE 215) nE d d1) (_ : d1.1 215 = s1) (_ : ∀ d', fr (rE 215) nE d d' → d'.1 215 = n3 s1 p q c → Q none S1 d'), mM G mX11_note 147 [some (.ref 214), some (.int (nI p)), some (.int (nI q)), none] [] S1 d1 (0, 0) Q := by
    intro s1 d1 hd h8 hq
    refine m_aload_n (pc' := 148) dX11_note_147 rfl rfl ?_
    refine m_getR (pc' := 151) fa_X11_note_7 dX11_note_148 (by decide) rfl rfl rfl rfl ?_
    refine m_bipush (pc' := 153) (v := 88) dX11_note_151 (by decide) rfl ?_
    refine m_iload_n (pc' := 154) dX11_note_153 rfl rfl ?_
    refine m_bipush (pc' := 156) (v := 8) dX11_note_154 (by decide) rfl ?_
    refine m_icmp_ge (tgt := 163) (pc' := 159) dX11_note_156 (by decide) rfl (fun h156 => ?_) (fun h156 => ?_)
    · skip
      refine m_iload_n (pc' := 164) dX11_note_163 rfl rfl ?_
      refine m_bipush (pc' := 166) (v := 8) dX11_note_164 (by decide) rfl ?_
      refine m_isub (pc' := 167) dX11_note_166 rfl ?_
      refine m_iconst (pc' := 168) (v := 1) dX11_note_167 (by decide) rfl ?_
      refine m_iadd (pc' := 169) dX11_note_168 rfl ?_
      refine m_iadd (pc' := 170) dX11_note_169 rfl ?_
      rw [show (88 + (((nI p) - 8) + 1)) = (nI (81 + p)) from (by have hp8 := (nI_leI (a := 8) (by decide) (by omega)).mp h156; rw [show nI p - 8 = nI (p - 8) from pk_sub hp8, nI_1, show (88 : Int32) = nI 88 from rfl, nI_add]; congr 1; omega)]
      refine m_dup2 (pc' := 171) dX11_note_170 rfl ?_
      refine m_ialdN (pc' := 172) (j := 81 + p) (L := 408) dX11_note_171 (by decide) rfl rfl (rfl) (by omega) (by decide) rfl ?_
      rw [show (d1.1 215 (81 + p)) = (s1 (81 + p)) from congrFun h8 (81 + p)]
      refine m_iload_n (pc' := 173) dX11_note_172 rfl rfl ?_
      refine m_iconst (pc' := 174) (v := 1) dX11_note_173 (by decide) rfl ?_
      refine m_iadd (pc' := 175) dX11_note_174 rfl ?_
      refine m_iadd (pc' := 176) dX11_note_175 rfl ?_
      refine m_iastN (pc' := 177) (j := 81 + p) (L := 408) dX11_note_176 (by decide) rfl rfl (rfl) (by omega) (by decide) rfl ?_
      have hp8 := (nI_leI (a := 8) (by decide) (by omega)).mp h156
      have ea : nai p = 81 + p := if_neg (show ¬ p < 8 by omega)
      exact J4 (sU s1 (nai p) (s1 (nai p) + (nI q + 1))) _ (hd.i _ rfl) (by rw [ea]; exact u2_row h8) hq
    · skip
      refine m_iconst (pc' := 160) (v := 0) dX11_note_159 (by decide) rfl ?_
      refine m_goto (tgt := 169) dX11_note_160 (by decide) ?_
      refine m_iadd (pc' := 170) dX11_note_169 rfl ?_
      show mM G mX11_note 170 [some (.ref 214), some (.int (nI p)), some (.int (nI q)), none] [.int 88, .ref 215] S1 d1 (0, 0) Q
      refine m_dup2 (pc' := 171) dX11_note_170 rfl ?_
      refine m_ialdN (pc' := 172) (j := 88) (L := 408) dX11_note_171 (by decide) rfl rfl (rfl) (by decide) (by decide) rfl ?_
      rw [show (d1.1 215 88) = (s1 88) from congrFun h8 88]
      refine m_iload_n (pc' := 173) dX11_note_172 rfl rfl ?_
      refine m_iconst (pc' := 174) (v := 1) dX11_note_173 (by decide) rfl ?_
      refine m_iadd (pc' := 175) dX11_note_174 rfl ?_
      refine m_iadd (pc' := 176) dX11_note_175 rfl ?_
      refine m_iastN (pc' := 177) (j := 88) (L := 408) dX11_note_176 (by decide) rfl rfl (rfl) (by decide) (by decide) rfl ?_
      have hp8 : p < 8 := Nat.not_le.mp (fun h => h156 ((nI_leI (a := 8) (by decide) (by omega)).mpr h))
      have ea : nai p = 88 := if_pos hp8
      exact J4 (sU s1 (nai p) (s1 (nai p) + (nI q + 1))) _ (hd.i _ rfl) (by rw [ea]; exact u2_row h8) hq
  have J2 : ∀ (s1 : SS) (d1 : Dt) (_ : fr (rE 215) nE d d1) (_ : d1.1 215 = s1) (_ : ∀ d', fr (rE 215) nE d d' → d'.1 215 = n2 s1 p q r c → Q none S1 d'), mM G mX11_note 134 [some (.ref 214), some (.int (nI p)), some (.int (nI q)), none] [] S1 d1 (0, 0) Q := by
    intro s1 d1 hd h8 hq
    refine m_aload_n (pc' := 135) dX11_note_134 rfl rfl ?_
    refine m_getR (pc' := 138) fa_X11_note_7 dX11_note_135 (by decide) rfl rfl rfl rfl ?_
    refine m_bipush (pc' := 140) (v := 78) dX11_note_138 (by decide) rfl ?_
    refine m_iload_n (pc' := 141) dX11_note_140 rfl rfl ?_
    refine m_iadd (pc' := 142) dX11_note_141 rfl ?_
    refine m_aload_n (pc' := 143) dX11_note_142 rfl rfl ?_
    refine m_getI (pc' := 146) fa_X11_note_77 dX11_note_143 (by decide) rfl rfl rfl ?_
    rw [show (d1.1 214 11) = r from (hd.1 214 11 (show ¬ (214 = 215) by decide)).trans h11]
    refine m_iastN (pc' := 147) (j := 78 + p) (L := 408) dX11_note_146 (by decide) rfl rfl (nI_add 78 p) (by omega) (by decide) rfl ?_
    exact J3 _ _ (hd.i _ rfl) (u2_row h8) hq
  have J1 : ∀ (k1 : Nat) (s1 : SS) (d1 : Dt) (_ : fr (rE 215) nE d d1) (_ : d1.1 215 = s1) (_ : s1 77 = nI k1) (_ : ∀ d', fr (rE 215) nE d d' → d'.1 215 = n1 s1 k1 p q r c → Q none S1 d'), mM G mX11_note 123 [some (.ref 214), some (.int (nI p)), some (.int (nI q)), none] [] S1 d1 (0, 0) Q := by
    intro k1 s1 d1 hd h8 h7 hq
    refine m_aload_n (pc' := 124) dX11_note_123 rfl rfl ?_
    refine m_getR (pc' := 127) fa_X11_note_7 dX11_note_124 (by decide) rfl rfl rfl rfl ?_
    refine m_bipush (pc' := 129) (v := 77) dX11_note_127 (by decide) rfl ?_
    refine m_dup2 (pc' := 130) dX11_note_129 rfl ?_
    refine m_ialdN (pc' := 131) (j := 77) (L := 408) dX11_note_130 (by decide) rfl rfl (rfl) (by decide) (by decide) rfl ?_
    rw [show (d1.1 215 77) = (nI k1) from (congrFun h8 77).trans h7]
    refine m_iconst (pc' := 132) (v := 1) dX11_note_131 (by decide) rfl ?_
    refine m_iadd (pc' := 133) dX11_note_132 rfl ?_
    rw [show ((nI k1) + 1) = (nI (k1 + 1)) from nI_1 k1]
    refine m_iastN (pc' := 134) (j := 77) (L := 408) dX11_note_133 (by decide) rfl rfl (rfl) (by decide) (by decide) rfl ?_
    exact J2 _ _ (hd.i _ rfl) (u2_row h8) hq
  have J0 : ∀ (k1 : Nat) (_ : k1 < 32) (s1 : SS) (d1 : Dt) (_ : fr (rE 215) nE d d1) (_ : d1.1 215 = s1) (_ : s1 77 = nI k1) (_ : ∀ d', fr (rE 215) nE d d' → d'.1 215 = n1 (n0 s1 k1 p (nI tm) r c e) k1 p q r c → Q none S1 d'), mM G mX11_note 53 [some (.ref 214), some (.int (nI p)), some (.int (nI q)), none] [] S1 d1 (0, 0) Q := by
    intro k1 hk1 s1 d1 hd h8 h7 hq
    refine m_bipush (pc' := 55) (v := 94) dX11_note_53 (by decide) rfl ?_
    refine m_iconst (pc' := 56) (v := 5) dX11_note_55 (by decide) rfl ?_
    refine m_aload_n (pc' := 57) dX11_note_56 rfl rfl ?_
    refine m_getR (pc' := 60) fa_X11_note_7 dX11_note_57 (by decide) rfl rfl rfl rfl ?_
    refine m_bipush (pc' := 62) (v := 77) dX11_note_60 (by decide) rfl ?_
    refine m_ialdN (pc' := 63) (j := 77) (L := 408) dX11_note_62 (by decide) rfl rfl (rfl) (by decide) (by decide) rfl ?_
    rw [show (d1.1 215 77) = (nI k1) from (congrFun h8 77).trans h7]
    refine m_imul (pc' := 64) dX11_note_63 rfl ?_
    refine m_iadd (pc' := 65) dX11_note_64 rfl ?_
    rw [show (94 + (5 * (nI k1))) = (nI (94 + 5 * k1)) from ix_l k1]
    refine m_istore_n (pc' := 66) dX11_note_65 (by decide) rfl rfl ?_
    refine m_aload_n (pc' := 67) dX11_note_66 rfl rfl ?_
    refine m_getR (pc' := 70) fa_X11_note_7 dX11_note_67 (by decide) rfl rfl rfl rfl ?_
    refine m_iload_n (pc' := 71) dX11_note_70 rfl rfl ?_
    refine m_iload_n (pc' := 72) dX11_note_71 rfl rfl ?_
    refine m_iastN (pc' := 73) (j := 94 + 5 * k1) (L := 408) dX11_note_72 (by decide) rfl rfl (rfl) (by omega) (by decide) rfl ?_
    refine m_aload_n (pc' := 74) dX11_note_73 rfl rfl ?_
    refine m_getR (pc' := 77) fa_X11_note_7 dX11_note_74 (by decide) rfl rfl rfl rfl ?_
    refine m_iload_n (pc' := 78) dX11_note_77 rfl rfl ?_
    refine m_iconst (pc' := 79) (v := 1) dX11_note_78 (by decide) rfl ?_
    refine m_iadd (pc' := 80) dX11_note_79 rfl ?_
    refine m_aload_n (pc' := 81) dX11_note_80 rfl rfl ?_
    refine m_getI (pc' := 84) fa_X11_note_66 dX11_note_81 (by decide) rfl rfl rfl ?_
    show mM G mX11_note 84 [some (.ref 214), some (.int (nI p)), some (.int (nI q)), some (.int (nI (94 + 5 * k1)))] [.int (d1.1 214 10), .int ((nI (94 + 5 * k1)) + 1), .ref 215] S1 (u2 d1.1 215 (94 + 5 * k1) (nI p), d1.2) (0, 0) Q
    rw [show (d1.1 214 10) = (nI (tm + 1)) from (hd.1 214 10 (show ¬ (214 = 215) by decide)).trans h10]
    refine m_iconst (pc' := 85) (v := 1) dX11_note_84 (by decide) rfl ?_
    refine m_isub (pc' := 86) dX11_note_85 rfl ?_
    rw [show ((nI (tm + 1)) - 1) = (nI tm) from nI_pred tm]
    refine m_iastN (pc' := 87) (j := 95 + 5 * k1) (L := 408) dX11_note_86 (by decide) rfl rfl (ix_o (j := 1) (by omega)) (by omega) (by decide) rfl ?_
    refine m_aload_n (pc' := 88) dX11_note_87 rfl rfl ?_
    refine m_getR (pc' := 91) fa_X11_note_7 dX11_note_88 (by decide) rfl rfl rfl rfl ?_
    refine m_iload_n (pc' := 92) dX11_note_91 rfl rfl ?_
    refine m_iconst (pc' := 93) (v := 2) dX11_note_92 (by decide) rfl ?_
    refine m_iadd (pc' := 94) dX11_note_93 rfl ?_
    refine m_aload_n (pc' := 95) dX11_note_94 rfl rfl ?_
    refine m_getI (pc' := 98) fa_X11_note_77 dX11_note_95 (by decide) rfl rfl rfl ?_
    show mM G mX11_note 98 [some (.ref 214), some (.int (nI p)), some (.int (nI q)), some (.int (nI (94 + 5 * k1)))] [.int (d1.1 214 11), .int ((nI (94 + 5 * k1)) + 2), .ref 215] S1 (u2 (u2 d1.1 215 (94 + 5 * k1) (nI p)) 215 (95 + 5 * k1) (nI tm), d1.2) (0, 0) Q
    rw [show (d1.1 214 11) = r from (hd.1 214 11 (show ¬ (214 = 215) by decide)).trans h11]
    refine m_iastN (pc' := 99) (j := 96 + 5 * k1) (L := 408) dX11_note_98 (by decide) rfl rfl (ix_o (j := 2) (by omega)) (by omega) (by decide) rfl ?_
    refine m_aload_n (pc' := 100) dX11_note_99 rfl rfl ?_
    refine m_getR (pc' := 103) fa_X11_note_7 dX11_note_100 (by decide) rfl rfl rfl rfl ?_
    refine m_iload_n (pc' := 104) dX11_note_103 rfl rfl ?_
    refine m_iconst (pc' := 105) (v := 3) dX11_note_104 (by decide) rfl ?_
    refine m_iadd (pc' := 106) dX11_note_105 rfl ?_
    refine m_aload_n (pc' := 107) dX11_note_106 rfl rfl ?_
    refine m_getI (pc' := 110) fa_X11_note_80 dX11_note_107 (by decide) rfl rfl rfl ?_
    show mM G mX11_note 110 [some (.ref 214), some (.int (nI p)), some (.int (nI q)), some (.int (nI (94 + 5 * k1)))] [.int (d1.1 214 12), .int ((nI (94 + 5 * k1)) + 3), .ref 215] S1 (u2 (u2 (u2 d1.1 215 (94 + 5 * k1) (nI p)) 215 (95 + 5 * k1) (nI tm)) 215 (96 + 5 * k1) r, d1.2) (0, 0) Q
    rw [show (d1.1 214 12) = c from (hd.1 214 12 (show ¬ (214 = 215) by decide)).trans h12]
    refine m_iastN (pc' := 111) (j := 97 + 5 * k1) (L := 408) dX11_note_110 (by decide) rfl rfl (ix_o (j := 3) (by omega)) (by omega) (by decide) rfl ?_
    refine m_aload_n (pc' := 112) dX11_note_111 rfl rfl ?_
    refine m_getR (pc' := 115) fa_X11_note_7 dX11_note_112 (by decide) rfl rfl rfl rfl ?_
    refine m_iload_n (pc' := 116) dX11_note_115 rfl rfl ?_
    refine m_iconst (pc' := 117) (v := 4) dX11_note_116 (by decide) rfl ?_
    refine m_iadd (pc' := 118) dX11_note_117 rfl ?_
    refine m_aload_n (pc' := 119) dX11_note_118 rfl rfl ?_
    refine m_getI (pc' := 122) fa_X11_note_83 dX11_note_119 (by decide) rfl rfl rfl ?_
    show mM G mX11_note 122 [some (.ref 214), some (.int (nI p)), some (.int (nI q)), some (.int (nI (94 + 5 * k1)))] [.int (d1.1 214 13), .int ((nI (94 + 5 * k1)) + 4), .ref 215] S1 (u2 (u2 (u2 (u2 d1.1 215 (94 + 5 * k1) (nI p)) 215 (95 + 5 * k1) (nI tm)) 215 (96 + 5 * k1) r) 215 (97 + 5 * k1) c, d1.2) (0, 0) Q
    rw [show (d1.1 214 13) = e from (hd.1 214 13 (show ¬ (214 = 215) by decide)).trans h13]
    refine m_iastN (pc' := 123) (j := 98 + 5 * k1) (L := 408) dX11_note_122 (by decide) rfl rfl (ix_o (j := 4) (by omega)) (by omega) (by decide) rfl ?_
    refine m_drop 3 (lo' := [some (.ref 214), some (.int (nI p)), some (.int (nI q)), none]) rfl ?_
    exact J1 k1 (n0 s1 k1 p (nI tm) r c e) _ (((((hd.i _ rfl).i _ rfl).i _ rfl).i _ rfl).i _ rfl) (u2_row (u2_row (u2_row (u2_row (u2_row h8))))) (n0_77.trans h7) hq
  have JS : ∀ (n0 : Nat) (k : Nat) (d1 : Dt) (_ : cnt = 32) (_ : k + n0 = 249) (_ : 94 ≤ k) (_ : fr (rE 215) nE d d1) (_ : d1.1 215 = lsf s k), mM G mX11_note 15 [some (.ref 214), some (.int (nI p)), some (.int (nI q)), some (.int (nI k))] [] S1 d1 (0, 0) Q := by
    intro n0
    induction n0 with
    | zero =>
      intro k d1 h32 hk hk94 hd h8
      refine m_iload_n (pc' := 16) dX11_note_15 rfl rfl ?_
      refine m_sipush (pc' := 19) (v := 249) dX11_note_16 (by decide) rfl ?_
      refine m_icmp_ge (tgt := 42) (pc' := 22) dX11_note_19 (by decide) rfl (fun h19 => ?_) (fun h19 => (h19 (nI_le (a := 249) (by omega) (by omega))).elim)
      refine m_aload_n (pc' := 43) dX11_note_42 rfl rfl ?_
      refine m_getR (pc' := 46) fa_X11_note_7 dX11_note_43 (by decide) rfl rfl rfl rfl ?_
      refine m_bipush (pc' := 48) (v := 77) dX11_note_46 (by decide) rfl ?_
      refine m_dup2 (pc' := 49) dX11_note_48 rfl ?_
      refine m_ialdN (pc' := 50) (j := 77) (L := 408) dX11_note_49 (by decide) rfl rfl (rfl) (by decide) (by decide) rfl ?_
      rw [show (d1.1 215 77) = 32 from (congrFun h8 77).trans ((show lsf s k 77 = s 77 by unfold lsf; rw [if_neg (by omega)]).trans (h77.trans (by rw [h32]; rfl)))]
      refine m_iconst (pc' := 51) (v := 1) dX11_note_50 (by decide) rfl ?_
      refine m_isub (pc' := 52) dX11_note_51 rfl ?_
      show mM G mX11_note 52 [some (.ref 214), some (.int (nI p)), some (.int (nI q)), some (.int (nI k))] [.int 31, .int 77, .ref 215] S1 d1 (0, 0) Q
      refine m_iastN (pc' := 53) (j := 77) (L := 408) dX11_note_52 (by decide) rfl rfl (rfl) (by decide) (by decide) rfl ?_
      refine m_drop 3 (lo' := [some (.ref 214), some (.int (nI p)), some (.int (nI q)), none]) rfl ?_
      obtain rfl : k = 249 := by omega
      exact J0 31 (by decide) (lsh s) _ (hd.i _ rfl) ((u2_row h8).trans (lsf_e s)) (by unfold lsh; rw [if_neg (by decide), if_pos rfl]; rfl) (fun d' e0 e1 => hQ d' e0 (e1.trans (by rw [h32]; rfl)))
    | succ n0 ih =>
      intro k d1 h32 hk hk94 hd h8
      refine m_iload_n (pc' := 16) dX11_note_15 rfl rfl ?_
      refine m_sipush (pc' := 19) (v := 249) dX11_note_16 (by decide) rfl ?_
      refine m_icmp_ge (tgt := 42) (pc' := 22) dX11_note_19 (by decide) rfl (fun h19 => absurd h19 (nI_ge (b := 249) (by omega) (by omega))) (fun h19 => ?_)
      refine m_aload_n (pc' := 23) dX11_note_22 rfl rfl ?_
      refine m_getR (pc' := 26) fa_X11_note_7 dX11_note_23 (by decide) rfl rfl rfl rfl ?_
      refine m_iload_n (pc' := 27) dX11_note_26 rfl rfl ?_
      refine m_aload_n (pc' := 28) dX11_note_27 rfl rfl ?_
      refine m_getR (pc' := 31) fa_X11_note_7 dX11_note_28 (by decide) rfl rfl rfl rfl ?_
      refine m_iload_n (pc' := 32) dX11_note_31 rfl rfl ?_
      refine m_iconst (pc' := 33) (v := 5) dX11_note_32 (by decide) rfl ?_
      refine m_iadd (pc' := 34) dX11_note_33 rfl ?_
      refine m_ialdN (pc' := 35) (j := k + 5) (L := 408) dX11_note_34 (by decide) rfl rfl (nI_add k 5) (by omega) (by decide) rfl ?_
      rw [show (d1.1 215 (k + 5)) = (s (k + 5)) from (congrFun h8 (k + 5)).trans (lsf_hi (by omega))]
      refine m_iastN (pc' := 36) (j := k) (L := 408) dX11_note_35 (by decide) rfl rfl (rfl) (by omega) (by decide) rfl ?_
      refine m_iinc (pc' := 39) dX11_note_36 rfl (by decide) (v := nI (k + 1)) (nI_1 k) rfl rfl ?_
      refine m_goto (tgt := 15) dX11_note_39 (by decide) ?_
      exact ih (k + 1) _ h32 (by omega) (by omega) (hd.i _ rfl) ((u2_row h8).trans (lsf_s s k hk94))
  refine mC_of (by decide +kernel) ⟨_, rfl⟩ (Nat.le_of_ble_eq_true rfl) ?_
  show mM G mX11_note 0 [some (.ref 214), some (.int (nI p)), some (.int (nI q)), none] [] S1 d (0, 0) Q
  refine m_aload_n (pc' := 1) dX11_note_0 rfl rfl ?_
  refine m_getR (pc' := 4) fa_X11_note_7 dX11_note_1 (by decide) rfl rfl rfl rfl ?_
  refine m_bipush (pc' := 6) (v := 77) dX11_note_4 (by decide) rfl ?_
  refine m_ialdN (pc' := 7) (j := 77) (L := 408) dX11_note_6 (by decide) rfl rfl (rfl) (by decide) (by decide) rfl ?_
  rw [show (d.1 215 77) = (nI cnt) from (congrFun hs 77).trans h77]
  refine m_bipush (pc' := 9) (v := 32) dX11_note_7 (by decide) rfl ?_
  refine m_icmp_ne (tgt := 53) (pc' := 12) dX11_note_9 (by decide) rfl (fun h9 => ?_) (fun h9 => ?_)
  · skip
    exact J0 cnt (by have := ne_nI (k := 32) h9; omega) s d fr.rfl hs h77 (fun d' e0 e1 => hQ d' e0 (e1.trans (by unfold ntS; rw [if_neg (ne_nI (k := 32) h9)]; rfl)))
  · skip
    refine m_bipush (pc' := 14) (v := 94) dX11_note_12 (by decide) rfl ?_
    refine m_istore_n (pc' := 15) dX11_note_14 (by decide) rfl rfl ?_
    exact JS 155 94 d ((nI_eq (b := 32) (by omega) (by decide)).mp h9) (by omega) (by decide) fr.rfl (hs.trans (lsf_0 s).symm)
set_option maxHeartbeats 4000000 in
set_option maxRecDepth 100000 in
theorem p_scan {A : AS} {k : Int32} (hM : MM d A) (hO : OK A) (hQ : ∀ d', mfr d d' → MM d' (opScan A k).2 → Q (some (.int (opScan A k).1)) S1 d') : mC G mX11_scan [.ref 214, .int k] S1 d Q := by
  by_cases h1 : bin k 1 20 = 0
  · skip
    rw [show opScan A k = (eI, A) from if_pos h1] at hQ
    refine mC_of (by decide +kernel) ⟨_, rfl⟩ (Nat.le_of_ble_eq_true rfl) ?_
    show mM G mX11_scan 0 [some (.ref 214), some (.int k), none, none, none] [] S1 d (0, 0) Q
    refine m_aload_n (pc' := 1) dX11_scan_0 rfl rfl ?_
    refine m_iconst (pc' := 2) (v := 0) dX11_scan_1 (by decide) rfl ?_
    refine m_putI (pc' := 5) (ty := .int) fa_X11_scan_29 dX11_scan_2 (by decide +kernel) rfl rfl (by decide) rfl rfl rfl ?_
    refine m_iload_n (pc' := 6) dX11_scan_5 rfl rfl ?_
    refine m_iconst (pc' := 7) (v := 1) dX11_scan_6 (by decide) rfl ?_
    refine m_bipush (pc' := 9) (v := 20) dX11_scan_7 (by decide) rfl ?_
    refine m_callS (pc' := 12) (A := [.int k, .int 1, .int 20]) (rest := []) cl_X11_scan_40 dX11_scan_9 rfl rfl (Nat.le_of_ble_eq_true rfl) ⟨by decide, by decide⟩ rfl rfl ?_
    refine c_in ?_
    show mM G mX11_scan 12 [some (.ref 214), some (.int k), none, none, none] [.int (bin k 1 20)] S1 (u2 d.1 214 0 0, d.2) (0, 0) Q
    rw [show (bin k 1 20) = 0 from h1]
    refine m_if_ne (tgt := 18) (pc' := 15) dX11_scan_12 (by decide) rfl (fun h12 => absurd h12 (by decide)) (fun h12 => ?_)
    refine m_ldc (pc' := 17) dX11_scan_15 kc_X11_scan_111 rfl ?_
    refine m_iret dX11_scan_17 rfl rfl ⟨by decide, by decide⟩ ?_
    exact hQ _ mfr.th hM.th
  have hs : d.1 215 = a_s A := hM.1
  by_cases h2 : a_s A 43 = 0
  · skip
    rw [show opScan A k = (eS, A) from by unfold opScan; rw [if_neg h1, if_pos h2]] at hQ
    refine mC_of (by decide +kernel) ⟨_, rfl⟩ (Nat.le_of_ble_eq_true rfl) ?_
    show mM G mX11_scan 0 [some (.ref 214), some (.int k), none, none, none] [] S1 d (0, 0) Q
    refine m_aload_n (pc' := 1) dX11_scan_0 rfl rfl ?_
    refine m_iconst (pc' := 2) (v := 0) dX11_scan_1 (by decide) rfl ?_
    refine m_putI (pc' := 5) (ty := .int) fa_X11_scan_29 dX11_scan_2 (by decide +kernel) rfl rfl (by decide) rfl rfl rfl ?_
    refine m_iload_n (pc' := 6) dX11_scan_5 rfl rfl ?_
    refine m_iconst (pc' := 7) (v := 1) dX11_scan_6 (by decide) rfl ?_
    refine m_bipush (pc' := 9) (v := 20) dX11_scan_7 (by decide) rfl ?_
    refine m_callS (pc' := 12) (A := [.int k, .int 1, .int 20]) (rest := []) cl_X11_scan_40 dX11_scan_9 rfl rfl (Nat.le_of_ble_eq_true rfl) ⟨by decide, by decide⟩ rfl rfl ?_
    refine c_in ?_
    show mM G mX11_scan 12 [some (.ref 214), some (.int k), none, none, none] [.int (bin k 1 20)] S1 (u2 d.1 214 0 0, d.2) (0, 0) Q
    rw [show (bin k 1 20) = 1 from bin_1 h1]
    refine m_if_ne (tgt := 18) (pc' := 15) dX11_scan_12 (by decide) rfl (fun h12 => ?_) (fun h12 => absurd h12 (by decide))
    refine m_aload_n (pc' := 19) dX11_scan_18 rfl rfl ?_
    refine m_getR (pc' := 22) fa_X11_scan_7 dX11_scan_19 (by decide) rfl rfl rfl rfl ?_
    refine m_bipush (pc' := 24) (v := 43) dX11_scan_22 (by decide) rfl ?_
    refine m_ialdN (pc' := 25) (j := 43) (L := 408) dX11_scan_24 (by decide) rfl rfl (rfl) (by decide) (by decide) rfl ?_
    show mM G mX11_scan 25 [some (.ref 214), some (.int k), none, none, none] [.int (d.1 215 43)] S1 (u2 d.1 214 0 0, d.2) (0, 0) Q
    rw [show (d.1 215 43) = (a_s A 43) from congrFun hs 43]
    refine m_if_ne (tgt := 31) (pc' := 28) dX11_scan_25 (by decide) rfl (fun h25 => (h25 h2).elim) (fun h25 => ?_)
    refine m_ldc (pc' := 30) dX11_scan_28 kc_X11_scan_139 rfl ?_
    refine m_iret dX11_scan_30 rfl rfl ⟨by decide, by decide⟩ ?_
    exact hQ _ mfr.th hM.th
  obtain ⟨n, hl⟩ := hO.l
  have e43 := hl.2.1
  have hn16 := hl.1
  obtain ⟨t0, ht0, et76⟩ := hO.t
  have hc := hO.c
  have ett : nn (a_s A 76) = t0 := by rw [et76]; exact nn_nI (by omega)
  have enn : nn (a_s A 43) = n := by rw [e43]; exact nn_nI (by omega)
  by_cases h3 : 9999 < a_s A 76 + k * sls (a_s A) n
  · skip
    rw [show opScan A k = (eC, A) from by unfold opScan; rw [if_neg h1, if_neg h2, enn, if_pos h3]] at hQ
    refine mC_of (by decide +kernel) ⟨_, rfl⟩ (Nat.le_of_ble_eq_true rfl) ?_
    show mM G mX11_scan 0 [some (.ref 214), some (.int k), none, none, none] [] S1 d (0, 0) Q
    refine m_aload_n (pc' := 1) dX11_scan_0 rfl rfl ?_
    refine m_iconst (pc' := 2) (v := 0) dX11_scan_1 (by decide) rfl ?_
    refine m_putI (pc' := 5) (ty := .int) fa_X11_scan_29 dX11_scan_2 (by decide +kernel) rfl rfl (by decide) rfl rfl rfl ?_
    refine m_iload_n (pc' := 6) dX11_scan_5 rfl rfl ?_
    refine m_iconst (pc' := 7) (v := 1) dX11_scan_6 (by decide) rfl ?_
    refine m_bipush (pc' := 9) (v := 20) dX11_scan_7 (by decide) rfl ?_
    refine m_callS (pc' := 12) (A := [.int k, .int 1, .int 20]) (rest := []) cl_X11_scan_40 dX11_scan_9 rfl rfl (Nat.le_of_ble_eq_true rfl) ⟨by decide, by decide⟩ rfl rfl ?_
    refine c_in ?_
    show mM G mX11_scan 12 [some (.ref 214), some (.int k), none, none, none] [.int (bin k 1 20)] S1 (u2 d.1 214 0 0, d.2) (0, 0) Q
    rw [show (bin k 1 20) = 1 from bin_1 h1]
    refine m_if_ne (tgt := 18) (pc' := 15) dX11_scan_12 (by decide) rfl (fun h12 => ?_) (fun h12 => absurd h12 (by decide))
    refine m_aload_n (pc' := 19) dX11_scan_18 rfl rfl ?_
    refine m_getR (pc' := 22) fa_X11_scan_7 dX11_scan_19 (by decide) rfl rfl rfl rfl ?_
    refine m_bipush (pc' := 24) (v := 43) dX11_scan_22 (by decide) rfl ?_
    refine m_ialdN (pc' := 25) (j := 43) (L := 408) dX11_scan_24 (by decide) rfl rfl (rfl) (by decide) (by decide) rfl ?_
    show mM G mX11_scan 25 [some (.ref 214), some (.int k), none, none, none] [.int (d.1 215 43)] S1 (u2 d.1 214 0 0, d.2) (0, 0) Q
    rw [show (d.1 215 43) = (a_s A 43) from congrFun hs 43]
    refine m_if_ne (tgt := 31) (pc' := 28) dX11_scan_25 (by decide) rfl (fun h25 => ?_) (fun h25 => absurd h25 (h2))
    refine m_aload_n (pc' := 32) dX11_scan_31 rfl rfl ?_
    refine m_getR (pc' := 35) fa_X11_scan_7 dX11_scan_32 (by decide) rfl rfl rfl rfl ?_
    refine m_bipush (pc' := 37) (v := 76) dX11_scan_35 (by decide) rfl ?_
    refine m_ialdN (pc' := 38) (j := 76) (L := 408) dX11_scan_37 (by decide) rfl rfl (rfl) (by decide) (by decide) rfl ?_
    show mM G mX11_scan 38 [some (.ref 214), some (.int k), none, none, none] [.int (d.1 215 76)] S1 (u2 d.1 214 0 0, d.2) (0, 0) Q
    rw [show (d.1 215 76) = (a_s A 76) from congrFun hs 76]
    refine m_iload_n (pc' := 39) dX11_scan_38 rfl rfl ?_
    refine m_aload_n (pc' := 40) dX11_scan_39 rfl rfl ?_
    refine m_callV (pc' := 43) (A := []) (rest := [.int k, .int (a_s A 76)]) (b := 214) cl_X11_scan_140 dX11_scan_40 rfl rfl (Nat.le_of_ble_eq_true rfl) ⟨by decide, by decide⟩ (by decide) rfl rfl rfl rfl ?_
    refine c_mslots (s := a_s A) hs hl ?_
    show mM G mX11_scan 43 [some (.ref 214), some (.int k), none, none, none] [.int (sls (a_s A) n), .int k, .int (a_s A 76)] S1 (u2 d.1 214 0 0, d.2) (0, 0) Q
    refine m_imul (pc' := 44) dX11_scan_43 rfl ?_
    refine m_iadd (pc' := 45) dX11_scan_44 rfl ?_
    refine m_sipush (pc' := 48) (v := 9999) dX11_scan_45 (by decide) rfl ?_
    refine m_icmp_le (tgt := 54) (pc' := 51) dX11_scan_48 (by decide) rfl (fun h48 => absurd h48 (Int32.not_le.mpr h3)) (fun h48 => ?_)
    refine m_ldc (pc' := 53) dX11_scan_51 kc_X11_scan_122 rfl ?_
    refine m_iret dX11_scan_53 rfl rfl ⟨by decide, by decide⟩ ?_
    exact hQ _ mfr.th hM.th
  have hM0 := hM.th
  obtain ⟨m, hm1, hm20, rfl⟩ := bin_t1 (b := 20) (by decide) h1
  have hI0 : scI (a_s A) t0 (a_s A, t0, a_h A) := ⟨fun _ _ => rfl, Nat.le_refl _, by obtain ⟨c, c1, c2⟩ := hO.g; exact ⟨c, c1, c2⟩⟩
  rw [show opScan A (nI m) = ((scR n m (a_s A, t0, a_h A)).1 93 - a_s A 93, rec A (sU (scR n m (a_s A, t0, a_h A)).1 76 (nI (scR n m (a_s A, t0, a_h A)).2.1)) (scR n m (a_s A, t0, a_h A)).2.2) from by unfold opScan; rw [if_neg h1, if_neg h2, enn, if_neg h3, ett, nn_nI (by omega)]] at hQ
  have J1 : ∀ (n0 : Nat) (m k : Nat) (c0 : Int32) (S : SC) (i b : Nat) (d1 : Dt) (_ : scI (a_s A) b S) (_ : b ≤ 900000) (_ : i + n0 = n) (_ : mfr d d1) (_ : MM d1 (rec A (scL i S).1 (a_h A))) (_ : d1.1 214 10 = nI (scL i S).2.1) (_ : d1.2 214 9 = (scL i S).2.2) (_ : ∀ d2, mfr d d2 → MM d2 (rec A (scL n S).1 (a_h A)) → d2.1 214 10 = nI (scL n S).2.1 → d2.2 214 9 = (scL n S).2.2 → mM G mX11_scan 72 [some (.ref 214), some (.int (nI m)), some (.int c0), some (.int (nI (k + 1))), none] [] S1 d2 (0, 0) Q), mM G mX11_scan 80 [some (.ref 214), some (.int (nI m)), some (.int c0), some (.int (nI k)), some (.int (nI i))] [] S1 d1 (0, 0) Q := by
    intro n0
    induction n0 with
    | zero =>
      intro m k c0 S i b d1 hI hb hk hd hM1 h10 h9 K
      have hin : i = n := by omega
      subst hin
      refine m_iload (pc' := 82) dX11_scan_80 rfl rfl ?_
      refine m_aload_n (pc' := 83) dX11_scan_82 rfl rfl ?_
      refine m_getR (pc' := 86) fa_X11_scan_7 dX11_scan_83 (by decide) rfl rfl rfl rfl ?_
      refine m_bipush (pc' := 88) (v := 43) dX11_scan_86 (by decide) rfl ?_
      refine m_ialdN (pc' := 89) (j := 43) (L := 408) dX11_scan_88 (by decide) rfl rfl (rfl) (by decide) (by decide) rfl ?_
      rw [show (d1.1 215 43) = (nI i) from (congrFun hM1.1 43).trans (((scI_L hl hI i (Nat.le_refl i)).1 43 (by decide)).trans e43)]
      refine m_icmp_ge (tgt := 130) (pc' := 92) dX11_scan_89 (by decide) rfl (fun h89 => ?_) (fun h89 => (h89 (nI_le (by omega) (by omega))).elim)
      refine m_iinc (pc' := 133) dX11_scan_130 rfl (by decide) (v := nI (k + 1)) (nI_1 k) rfl rfl ?_
      refine m_goto (tgt := 72) dX11_scan_133 (by decide) ?_
      refine m_drop 4 (lo' := [some (.ref 214), some (.int (nI m)), some (.int c0), some (.int (nI (k + 1))), none]) rfl ?_
      exact K d1 hd hM1 h10 h9
    | succ n0 ih =>
      intro m k c0 S i b d1 hI hb hk hd hM1 h10 h9 K
      have hIi := scI_L hl hI i (by omega)
      obtain ⟨T, hT⟩ : ∃ T, scL i S = T := ⟨_, rfl⟩
      rw [hT] at hM1 h10 h9 hIi
      obtain ⟨hi1, hi2, cnt, hcnt, e77⟩ := hIi
      have hi : i < n := by omega
      have hs : d1.1 215 = T.1 := hM1.1
      have hlT := okL_in hi1 hl
      have hcT : ∀ c, c < 8 → okC T.1 c := fun c hc8 => okC_lo (lo_in hi1) hc8 (hc c hc8)
      refine m_iload (pc' := 82) dX11_scan_80 rfl rfl ?_
      refine m_aload_n (pc' := 83) dX11_scan_82 rfl rfl ?_
      refine m_getR (pc' := 86) fa_X11_scan_7 dX11_scan_83 (by decide) rfl rfl rfl rfl ?_
      refine m_bipush (pc' := 88) (v := 43) dX11_scan_86 (by decide) rfl ?_
      refine m_ialdN (pc' := 89) (j := 43) (L := 408) dX11_scan_88 (by decide) rfl rfl (rfl) (by decide) (by decide) rfl ?_
      rw [show (d1.1 215 43) = (T.1 43) from congrFun hs 43]
      refine m_icmp_ge (tgt := 130) (pc' := 92) dX11_scan_89 (by decide) rfl (fun h89 => absurd h89 (by rw [hlT.2.1]; exact nI_ge (by omega) (by omega))) (fun h89 => ?_)
      refine m_aload_n (pc' := 93) dX11_scan_92 rfl rfl ?_
      refine m_aload_n (pc' := 94) dX11_scan_93 rfl rfl ?_
      refine m_iload (pc' := 96) dX11_scan_94 rfl rfl ?_
      refine m_callV (pc' := 99) (A := [.int (nI i)]) (rest := [.ref 214]) (b := 214) cl_X11_scan_89 dX11_scan_96 rfl rfl (Nat.le_of_ble_eq_true rfl) ⟨by decide, by decide⟩ (by decide) rfl rfl rfl rfl ?_
      refine c_mplace (i := i) (s := T.1) hs (by omega) ?_
      show mM G mX11_scan 99 [some (.ref 214), some (.int (nI m)), some (.int c0), some (.int (nI k)), some (.int (nI i))] [.int (T.1 (44 + 2 * i)), .ref 214] S1 d1 (0, 0) Q
      rw [show (T.1 (44 + 2 * i)) = (nI (pn T.1 i)) from (okL_p hlT hi).1]
      refine m_aload_n (pc' := 100) dX11_scan_99 rfl rfl ?_
      refine m_iload (pc' := 102) dX11_scan_100 rfl rfl ?_
      refine m_callV (pc' := 105) (A := [.int (nI i)]) (rest := [.int (nI (pn T.1 i)), .ref 214]) (b := 214) cl_X11_scan_93 dX11_scan_102 rfl rfl (Nat.le_of_ble_eq_true rfl) ⟨by decide, by decide⟩ (by decide) rfl rfl rfl rfl ?_
      refine c_msettle (i := i) (s := T.1) hs (by omega) ?_
      show mM G mX11_scan 105 [some (.ref 214), some (.int (nI m)), some (.int c0), some (.int (nI k)), some (.int (nI i))] [.int (T.1 (45 + 2 * i)), .int (nI (pn T.1 i)), .ref 214] S1 d1 (0, 0) Q
      rw [show (T.1 (45 + 2 * i)) = (nI (qn T.1 i)) from (okL_q hlT hi).1]
      refine m_callV (pc' := 108) (A := [.int (nI (pn T.1 i)), .int (nI (qn T.1 i))]) (rest := []) (b := 214) cl_X11_scan_96 dX11_scan_105 rfl rfl (Nat.le_of_ble_eq_true rfl) ⟨by decide, by decide⟩ (by decide) rfl rfl rfl rfl ?_
      refine c_mcarry (p := (pn T.1 i)) (q := (qn T.1 i)) (t := T.2.1) (h := T.2.2) (s := T.1) hs (pok_of hcT (okL_p hlT hi).2) (okL_q hlT hi).2 (by omega) h10 h9 (fun d2 g0 g10 g9 g11 g12 g13 => ?_)
      show mM G mX11_scan 108 [some (.ref 214), some (.int (nI m)), some (.int c0), some (.int (nI k)), some (.int (nI i))] [] S1 d2 (0, 0) Q
      have hs := g0.s hs
      refine m_aload_n (pc' := 109) dX11_scan_108 rfl rfl ?_
      refine m_aload_n (pc' := 110) dX11_scan_109 rfl rfl ?_
      refine m_iload (pc' := 112) dX11_scan_110 rfl rfl ?_
      refine m_callV (pc' := 115) (A := [.int (nI i)]) (rest := [.ref 214]) (b := 214) cl_X11_scan_89 dX11_scan_112 rfl rfl (Nat.le_of_ble_eq_true rfl) ⟨by decide, by decide⟩ (by decide) rfl rfl rfl rfl ?_
      refine c_mplace (i := i) (s := T.1) hs (by omega) ?_
      show mM G mX11_scan 115 [some (.ref 214), some (.int (nI m)), some (.int c0), some (.int (nI k)), some (.int (nI i))] [.int (T.1 (44 + 2 * i)), .ref 214] S1 d2 (0, 0) Q
      rw [show (T.1 (44 + 2 * i)) = (nI (pn T.1 i)) from (okL_p hlT hi).1]
      refine m_aload_n (pc' := 116) dX11_scan_115 rfl rfl ?_
      refine m_iload (pc' := 118) dX11_scan_116 rfl rfl ?_
      refine m_callV (pc' := 121) (A := [.int (nI i)]) (rest := [.int (nI (pn T.1 i)), .ref 214]) (b := 214) cl_X11_scan_93 dX11_scan_118 rfl rfl (Nat.le_of_ble_eq_true rfl) ⟨by decide, by decide⟩ (by decide) rfl rfl rfl rfl ?_
      refine c_msettle (i := i) (s := T.1) hs (by omega) ?_
      show mM G mX11_scan 121 [some (.ref 214), some (.int (nI m)), some (.int c0), some (.int (nI k)), some (.int (nI i))] [.int (T.1 (45 + 2 * i)), .int (nI (pn T.1 i)), .ref 214] S1 d2 (0, 0) Q
      rw [show (T.1 (45 + 2 * i)) = (nI (qn T.1 i)) from (okL_q hlT hi).1]
      refine m_callV (pc' := 124) (A := [.int (nI (pn T.1 i)), .int (nI (qn T.1 i))]) (rest := []) (b := 214) cl_X11_scan_144 dX11_scan_121 rfl rfl (Nat.le_of_ble_eq_true rfl) ⟨by decide, by decide⟩ (by decide) rfl rfl rfl rfl ?_
      refine c_mnote (s := T.1) (cnt := cnt) (p := pn T.1 i) (q := qn T.1 i) (tm := T.2.1 + qn T.1 i) hs e77 hcnt (okL_p hlT hi).2 g10 g11 g12 g13 (fun d3 k0 k1 => ?_)
      show mM G mX11_scan 124 [some (.ref 214), some (.int (nI m)), some (.int c0), some (.int (nI k)), some (.int (nI i))] [] S1 d3 (0, 0) Q
      refine m_iinc (pc' := 127) dX11_scan_124 rfl (by decide) (v := nI (i + 1)) (nI_1 i) rfl rfl ?_
      refine m_goto (tgt := 80) dX11_scan_127 (by decide) ?_
      have eE : scL (i + 1) S = scE i T := by show scE i (scL i S) = _; rw [hT]
      have en : nn (T.1 77) = cnt := by rw [e77]; exact nn_nI (by omega)
      refine ih m k c0 S (i + 1) b d3 hI hb (by omega) ((hd.trans (sim_mf g0)).trans (row_mf k0)) ?_ ?_ ?_ K
      · rw [eE]; exact ((hM1.sim g0).row (A := rec A T.1 (a_h A)) k0 (k1.trans (by show _ = ntS T.1 (nn (T.1 77)) _ _ _ _ _ _; rw [en])))
      · rw [eE]; exact (k0.1 214 10 (show ¬ (214 = 215) by decide)).trans g10
      · rw [eE]; exact (k0.2 214 9 id).trans g9
  have J2 : ∀ (n0 : Nat) (k : Nat) (d1 : Dt) (_ : k + n0 = m) (_ : mfr d d1) (_ : MM d1 (rec A (scR n k (a_s A, t0, a_h A)).1 (a_h A))) (_ : d1.1 214 10 = nI (scR n k (a_s A, t0, a_h A)).2.1) (_ : d1.2 214 9 = (scR n k (a_s A, t0, a_h A)).2.2), mM G mX11_scan 72 [some (.ref 214), some (.int (nI m)), some (.int (a_s A 93)), some (.int (nI k)), none] [] S1 d1 (0, 0) Q := by
    intro n0
    induction n0 with
    | zero =>
      intro k d1 hk hd hM1 h10 h9
      refine m_iload_n (pc' := 73) dX11_scan_72 rfl rfl ?_
      refine m_iload_n (pc' := 74) dX11_scan_73 rfl rfl ?_
      refine m_icmp_ge (tgt := 136) (pc' := 77) dX11_scan_74 (by decide) rfl (fun h74 => ?_) (fun h74 => (h74 (nI_le (by omega) (by omega))).elim)
      refine m_aload_n (pc' := 137) dX11_scan_136 rfl rfl ?_
      refine m_aload_n (pc' := 138) dX11_scan_137 rfl rfl ?_
      refine m_getF (pc' := 141) fa_X11_scan_63 dX11_scan_138 (by decide) rfl rfl rfl ?_
      rw [show (d1.2 214 9) = ((scR n k (a_s A, t0, a_h A)).2.2) from h9]
      refine m_putFl (pc' := 144) fa_X11_scan_36 dX11_scan_141 (by decide) rfl rfl rfl ?_
      refine m_aload_n (pc' := 145) dX11_scan_144 rfl rfl ?_
      refine m_getR (pc' := 148) fa_X11_scan_7 dX11_scan_145 (by decide) rfl rfl rfl rfl ?_
      refine m_bipush (pc' := 150) (v := 76) dX11_scan_148 (by decide) rfl ?_
      refine m_aload_n (pc' := 151) dX11_scan_150 rfl rfl ?_
      refine m_getI (pc' := 154) fa_X11_scan_66 dX11_scan_151 (by decide) rfl rfl rfl ?_
      show mM G mX11_scan 154 [some (.ref 214), some (.int (nI m)), some (.int (a_s A 93)), some (.int (nI k)), none] [.int (d1.1 214 10), .int 76, .ref 215] S1 (d1.1, u2 d1.2 214 6 ((scR n k (a_s A, t0, a_h A)).2.2)) (0, 0) Q
      rw [show (d1.1 214 10) = (nI (scR n k (a_s A, t0, a_h A)).2.1) from h10]
      refine m_iastN (pc' := 155) (j := 76) (L := 408) dX11_scan_154 (by decide) rfl rfl (rfl) (by decide) (by decide) rfl ?_
      refine m_aload_n (pc' := 156) dX11_scan_155 rfl rfl ?_
      refine m_getR (pc' := 159) fa_X11_scan_7 dX11_scan_156 (by decide) rfl rfl rfl rfl ?_
      refine m_bipush (pc' := 161) (v := 93) dX11_scan_159 (by decide) rfl ?_
      refine m_ialdN (pc' := 162) (j := 93) (L := 408) dX11_scan_161 (by decide) rfl rfl (rfl) (by decide) (by decide) rfl ?_
      show mM G mX11_scan 162 [some (.ref 214), some (.int (nI m)), some (.int (a_s A 93)), some (.int (nI k)), none] [.int (d1.1 215 93)] S1 (u2 d1.1 215 76 (nI (scR n k (a_s A, t0, a_h A)).2.1), u2 d1.2 214 6 ((scR n k (a_s A, t0, a_h A)).2.2)) (0, 0) Q
      rw [show (d1.1 215 93) = ((scR n k (a_s A, t0, a_h A)).1 93) from congrFun hM1.1 93]
      refine m_iload_n (pc' := 163) dX11_scan_162 rfl rfl ?_
      refine m_isub (pc' := 164) dX11_scan_163 rfl ?_
      refine m_iret dX11_scan_164 rfl rfl ⟨by decide, by decide⟩ ?_
      obtain rfl : k = m := by omega
      exact hQ _ (mfr_put (fr.f hd _ (show 214 ≤ 214 by decide))) (((MM.chg (s := (scR n k (a_s A, t0, a_h A)).1) (m := hm (a_m A) + 1) hM1 _)).put' rfl)
    | succ n0 ih =>
      intro k d1 hk hd hM1 h10 h9
      refine m_iload_n (pc' := 73) dX11_scan_72 rfl rfl ?_
      refine m_iload_n (pc' := 74) dX11_scan_73 rfl rfl ?_
      refine m_icmp_ge (tgt := 136) (pc' := 77) dX11_scan_74 (by decide) rfl (fun h74 => absurd h74 (nI_ge (by omega) (by omega))) (fun h74 => ?_)
      refine m_iconst (pc' := 78) (v := 0) dX11_scan_77 (by decide) rfl ?_
      refine m_istore (pc' := 80) dX11_scan_78 (by decide) rfl rfl ?_
      exact J1 n m k (a_s A 93) (scR n k (a_s A, t0, a_h A)) 0 (t0 + 128 * k) d1 (scI_R hl hI0 k) (by omega) (by omega) hd hM1 h10 h9 (fun d2 q0 qM q10 q9 => ih (k + 1) d2 (by omega) q0 qM q10 q9)
  refine mC_of (by decide +kernel) ⟨_, rfl⟩ (Nat.le_of_ble_eq_true rfl) ?_
  show mM G mX11_scan 0 [some (.ref 214), some (.int (nI m)), none, none, none] [] S1 d (0, 0) Q
  refine m_aload_n (pc' := 1) dX11_scan_0 rfl rfl ?_
  refine m_iconst (pc' := 2) (v := 0) dX11_scan_1 (by decide) rfl ?_
  refine m_putI (pc' := 5) (ty := .int) fa_X11_scan_29 dX11_scan_2 (by decide +kernel) rfl rfl (by decide) rfl rfl rfl ?_
  refine m_iload_n (pc' := 6) dX11_scan_5 rfl rfl ?_
  refine m_iconst (pc' := 7) (v := 1) dX11_scan_6 (by decide) rfl ?_
  refine m_bipush (pc' := 9) (v := 20) dX11_scan_7 (by decide) rfl ?_
  refine m_callS (pc' := 12) (A := [.int (nI m), .int 1, .int 20]) (rest := []) cl_X11_scan_40 dX11_scan_9 rfl rfl (Nat.le_of_ble_eq_true rfl) ⟨by decide, by decide⟩ rfl rfl ?_
  refine c_in ?_
  show mM G mX11_scan 12 [some (.ref 214), some (.int (nI m)), none, none, none] [.int (bin (nI m) 1 20)] S1 (u2 d.1 214 0 0, d.2) (0, 0) Q
  rw [show (bin (nI m) 1 20) = 1 from bin_1 h1]
  refine m_if_ne (tgt := 18) (pc' := 15) dX11_scan_12 (by decide) rfl (fun h12 => ?_) (fun h12 => absurd h12 (by decide))
  refine m_aload_n (pc' := 19) dX11_scan_18 rfl rfl ?_
  refine m_getR (pc' := 22) fa_X11_scan_7 dX11_scan_19 (by decide) rfl rfl rfl rfl ?_
  refine m_bipush (pc' := 24) (v := 43) dX11_scan_22 (by decide) rfl ?_
  refine m_ialdN (pc' := 25) (j := 43) (L := 408) dX11_scan_24 (by decide) rfl rfl (rfl) (by decide) (by decide) rfl ?_
  show mM G mX11_scan 25 [some (.ref 214), some (.int (nI m)), none, none, none] [.int (d.1 215 43)] S1 (u2 d.1 214 0 0, d.2) (0, 0) Q
  rw [show (d.1 215 43) = (a_s A 43) from congrFun hs 43]
  refine m_if_ne (tgt := 31) (pc' := 28) dX11_scan_25 (by decide) rfl (fun h25 => ?_) (fun h25 => absurd h25 (h2))
  refine m_aload_n (pc' := 32) dX11_scan_31 rfl rfl ?_
  refine m_getR (pc' := 35) fa_X11_scan_7 dX11_scan_32 (by decide) rfl rfl rfl rfl ?_
  refine m_bipush (pc' := 37) (v := 76) dX11_scan_35 (by decide) rfl ?_
  refine m_ialdN (pc' := 38) (j := 76) (L := 408) dX11_scan_37 (by decide) rfl rfl (rfl) (by decide) (by decide) rfl ?_
  show mM G mX11_scan 38 [some (.ref 214), some (.int (nI m)), none, none, none] [.int (d.1 215 76)] S1 (u2 d.1 214 0 0, d.2) (0, 0) Q
  rw [show (d.1 215 76) = (a_s A 76) from congrFun hs 76]
  refine m_iload_n (pc' := 39) dX11_scan_38 rfl rfl ?_
  refine m_aload_n (pc' := 40) dX11_scan_39 rfl rfl ?_
  refine m_callV (pc' := 43) (A := []) (rest := [.int (nI m), .int (a_s A 76)]) (b := 214) cl_X11_scan_140 dX11_scan_40 rfl rfl (Nat.le_of_ble_eq_true rfl) ⟨by decide, by decide⟩ (by decide) rfl rfl rfl rfl ?_
  refine c_mslots (s := a_s A) hs hl ?_
  show mM G mX11_scan 43 [some (.ref 214), some (.int (nI m)), none, none, none] [.int (sls (a_s A) n), .int (nI m), .int (a_s A 76)] S1 (u2 d.1 214 0 0, d.2) (0, 0) Q
  refine m_imul (pc' := 44) dX11_scan_43 rfl ?_
  refine m_iadd (pc' := 45) dX11_scan_44 rfl ?_
  refine m_sipush (pc' := 48) (v := 9999) dX11_scan_45 (by decide) rfl ?_
  refine m_icmp_le (tgt := 54) (pc' := 51) dX11_scan_48 (by decide) rfl (fun h48 => ?_) (fun h48 => (h48 (Int32.not_lt.mp h3)).elim)
  refine m_aload_n (pc' := 55) dX11_scan_54 rfl rfl ?_
  refine m_callV (pc' := 58) (A := []) (rest := []) (b := 214) cl_X11_scan_112 dX11_scan_55 rfl rfl (Nat.le_of_ble_eq_true rfl) ⟨by decide, by decide⟩ (by decide) rfl rfl rfl rfl ?_
  refine c_mact (s := a_s A) (h := a_h A) hM0.1 hM0.2.1 hM0.2.2.1 hM0.2.2.2.1 hM0.2.2.2.2.1 hM0.2.2.2.2.2.1 (fun g g0 g1 g2 g3 => ?_)
  show mM G mX11_scan 58 [some (.ref 214), some (.int (nI m)), none, none, none] [] S1 g (0, 0) Q
  have gM := hM0.act g0 g1 g2 g3
  have hs : g.1 215 = a_s A := gM.1
  refine m_aload_n (pc' := 59) dX11_scan_58 rfl rfl ?_
  refine m_getR (pc' := 62) fa_X11_scan_7 dX11_scan_59 (by decide) rfl rfl rfl rfl ?_
  refine m_bipush (pc' := 64) (v := 93) dX11_scan_62 (by decide) rfl ?_
  refine m_ialdN (pc' := 65) (j := 93) (L := 408) dX11_scan_64 (by decide) rfl rfl (rfl) (by decide) (by decide) rfl ?_
  rw [show (g.1 215 93) = ((a_s A) 93) from congrFun hs 93]
  refine m_istore_n (pc' := 66) dX11_scan_65 (by decide) rfl rfl ?_
  refine m_aload_n (pc' := 67) dX11_scan_66 rfl rfl ?_
  refine m_callV (pc' := 70) (A := []) (rest := []) (b := 214) cl_X11_scan_86 dX11_scan_67 rfl rfl (Nat.le_of_ble_eq_true rfl) ⟨by decide, by decide⟩ (by decide) rfl rfl rfl rfl ?_
  refine c_mbegin (s := a_s A) hs (fun b b0 b10 b9 => ?_)
  show mM G mX11_scan 70 [some (.ref 214), some (.int (nI m)), some (.int ((a_s A) 93)), none, none] [] S1 b (0, 0) Q
  refine m_iconst (pc' := 71) (v := 0) dX11_scan_70 (by decide) rfl ?_
  refine m_istore_n (pc' := 72) dX11_scan_71 (by decide) rfl rfl ?_
  exact J2 m 0 b (by omega) ((mfr.th.trans (act_mf g0)).trans (sim_mf b0)) (gM.sim b0) (b10.trans et76) (b9.trans gM.2.2.2.2.2.1)
end MOD10
