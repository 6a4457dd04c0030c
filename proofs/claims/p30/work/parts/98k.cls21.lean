/-! THE CLASS'S OWN CALLS (12): groundsNeeded -/
section CLS21
variable {G : GP} {Q : Option Value → Sh → Dt → Prop} {d : Dt}
set_option maxHeartbeats 4000000 in
set_option maxRecDepth 100000 in
theorem k_groundsNeeded {A : AS}  (hC : CR d A) (hO : OK A) (hQ : ∀ d', cfr d d' → CR d' A → Q (some (.int (vGrounds A))) S1 d') : mC G mX10_groundsNeeded [.ref 0] S1 d Q := by
  obtain ⟨n, hl⟩ := hO.l
  have e43 := hl.2.1
  have hn16 := hl.1
  obtain ⟨t0, ht0, et76⟩ := hO.t
  have hc := hO.c
  have ett : nn (a_s A 76) = t0 := by rw [et76]; exact nn_nI (by omega)
  have enn : nn (a_s A 43) = n := by rw [e43]; exact nn_nI (by omega)
  rw [show vGrounds A = (gns (a_s A) t0 (a_h A) n).2.2 from by unfold vGrounds; rw [ett, enn]] at hQ
  have J : ∀ (n0 : Nat) (i : Nat) (d1 : Dt) (_ : i + n0 = n) (_ : fr cvE cvF d d1) (_ : SR d1 2 (a_s A)) (_ : d1.1 189 1 = nI (gns (a_s A) t0 (a_h A) i).1) (_ : d1.2 189 0 = (gns (a_s A) t0 (a_h A) i).2.1), mM G mX10_groundsNeeded 25 [some (.ref 0), some (.int ((gns (a_s A) t0 (a_h A) i).2.2)), some (.int (nI i)), none, none] [] S1 d1 (0, 0) Q := by
    intro n0
    induction n0 with
    | zero =>
      intro i d1 hk hd hS h1 h0
      refine m_iload_n (pc' := 26) dX10_groundsNeeded_25 rfl rfl ?_
      refine m_aload_n (pc' := 27) dX10_groundsNeeded_26 rfl rfl ?_
      refine m_getR (pc' := 30) fa_X10_groundsNeeded_10 dX10_groundsNeeded_27 (by decide) rfl rfl rfl rfl ?_
      refine m_getR (pc' := 33) fa_X10_groundsNeeded_64 dX10_groundsNeeded_30 (by decide) rfl rfl rfl rfl ?_
      refine m_getI (pc' := 36) fa_X10_groundsNeeded_100 dX10_groundsNeeded_33 (by decide) rfl rfl rfl ?_
      rw [show (d1.1 2 3) = (nI n) from hS.2.2.2.trans e43]
      refine m_icmp_ge (tgt := 132) (pc' := 39) dX10_groundsNeeded_36 (by decide) rfl (fun h36 => ?_) (fun h36 => (h36 (nI_le (by omega) (by omega))).elim)
      refine m_iload_n (pc' := 133) dX10_groundsNeeded_132 rfl rfl ?_
      refine m_iret dX10_groundsNeeded_133 rfl rfl ⟨by decide, by decide⟩ ?_
      obtain rfl : i = n := by omega
      exact hQ d1 (cv_cf hd) (CR_cv hC hd)
    | succ n0 ih =>
      intro i d1 hk hd hS h1 h0
      refine m_iload_n (pc' := 26) dX10_groundsNeeded_25 rfl rfl ?_
      refine m_aload_n (pc' := 27) dX10_groundsNeeded_26 rfl rfl ?_
      refine m_getR (pc' := 30) fa_X10_groundsNeeded_10 dX10_groundsNeeded_27 (by decide) rfl rfl rfl rfl ?_
      refine m_getR (pc' := 33) fa_X10_groundsNeeded_64 dX10_groundsNeeded_30 (by decide) rfl rfl rfl rfl ?_
      refine m_getI (pc' := 36) fa_X10_groundsNeeded_100 dX10_groundsNeeded_33 (by decide) rfl rfl rfl ?_
      rw [show (d1.1 2 3) = (nI n) from hS.2.2.2.trans e43]
      refine m_icmp_ge (tgt := 132) (pc' := 39) dX10_groundsNeeded_36 (by decide) rfl (fun h36 => absurd h36 (nI_ge (by omega) (by omega))) (fun h36 => ?_)
      refine m_aload_n (pc' := 40) dX10_groundsNeeded_39 rfl rfl ?_
      refine m_getR (pc' := 43) fa_X10_groundsNeeded_26 dX10_groundsNeeded_40 (by decide) rfl rfl rfl rfl ?_
      refine m_getF (pc' := 46) fa_X10_groundsNeeded_247 dX10_groundsNeeded_43 (by decide) rfl rfl rfl ?_
      rw [show (d1.2 189 0) = ((gns (a_s A) t0 (a_h A) i).2.1) from h0]
      refine m_fstore_n (pc' := 47) dX10_groundsNeeded_46 (by decide) rfl rfl ?_
      refine m_aload_n (pc' := 48) dX10_groundsNeeded_47 rfl rfl ?_
      refine m_getR (pc' := 51) fa_X10_groundsNeeded_26 dX10_groundsNeeded_48 (by decide) rfl rfl rfl rfl ?_
      refine m_getI (pc' := 54) fa_X10_groundsNeeded_255 dX10_groundsNeeded_51 (by decide) rfl rfl rfl ?_
      rw [show (d1.1 189 1) = (nI (gns (a_s A) t0 (a_h A) i).1) from h1]
      refine m_istore (pc' := 56) dX10_groundsNeeded_54 (by decide) rfl rfl ?_
      refine m_aload_n (pc' := 57) dX10_groundsNeeded_56 rfl rfl ?_
      refine m_getR (pc' := 60) fa_X10_groundsNeeded_26 dX10_groundsNeeded_57 (by decide) rfl rfl rfl rfl ?_
      refine m_aload_n (pc' := 61) dX10_groundsNeeded_60 rfl rfl ?_
      refine m_getR (pc' := 64) fa_X10_groundsNeeded_10 dX10_groundsNeeded_61 (by decide) rfl rfl rfl rfl ?_
      refine m_getR (pc' := 67) fa_X10_groundsNeeded_64 dX10_groundsNeeded_64 (by decide) rfl rfl rfl rfl ?_
      refine m_iload_n (pc' := 68) dX10_groundsNeeded_67 rfl rfl ?_
      refine m_callV (pc' := 71) (A := [.ref 2, .int (nI i)]) (rest := []) (b := 189) cl_X10_groundsNeeded_266 dX10_groundsNeeded_68 rfl rfl (Nat.le_of_ble_eq_true rfl) ⟨by decide, by decide⟩ (by decide) rfl rfl rfl rfl ?_
      refine c_entry (n := n) (i := i) (t := (gns (a_s A) t0 (a_h A) i).1) (h := (gns (a_s A) t0 (a_h A) i).2.1) (s := a_s A) (by decide) hS hl (by omega) hc (by have := gns_le (t0 := t0) (h0 := a_h A) hl i (by omega); omega) h1 h0 (fun e e0 eS e1 e9 e2 e3 e4 => ?_)
      show mM G mX10_groundsNeeded 71 [some (.ref 0), some (.int ((gns (a_s A) t0 (a_h A) i).2.2)), some (.int (nI i)), some (.float ((gns (a_s A) t0 (a_h A) i).2.1)), some (.int (nI (gns (a_s A) t0 (a_h A) i).1))] [] S1 e (0, 0) Q
      refine m_aload_n (pc' := 72) dX10_groundsNeeded_71 rfl rfl ?_
      refine m_getR (pc' := 75) fa_X10_groundsNeeded_26 dX10_groundsNeeded_72 (by decide) rfl rfl rfl rfl ?_
      refine m_getI (pc' := 78) fa_X10_groundsNeeded_241 dX10_groundsNeeded_75 (by decide) rfl rfl rfl ?_
      rw [show (e.1 189 3) = (xc (a_s A) (pn (a_s A) i) (qn (a_s A) i) (gns (a_s A) t0 (a_h A) i).1 (gns (a_s A) t0 (a_h A) i).2.1) from e3]
      refine m_if_eq (tgt := 126) (pc' := 81) dX10_groundsNeeded_78 (by decide) rfl (fun h78 => ?_) (fun h78 => ?_)
      · skip
        refine m_iinc (pc' := 129) dX10_groundsNeeded_126 rfl (by decide) (v := nI (i + 1)) (nI_1 i) rfl rfl ?_
        refine m_goto (tgt := 25) dX10_groundsNeeded_129 (by decide) ?_
        refine m_drop 3 (lo' := [some (.ref 0), some (.int ((gns (a_s A) t0 (a_h A) i).2.2)), some (.int (nI (i + 1))), none, some (.int (nI (gns (a_s A) t0 (a_h A) i).1))]) rfl ?_
        refine m_drop 4 (lo' := [some (.ref 0), some (.int ((gns (a_s A) t0 (a_h A) i).2.2)), some (.int (nI (i + 1))), none, none]) rfl ?_
        have hz : gns (a_s A) t0 (a_h A) (i + 1) = ((gns (a_s A) t0 (a_h A) i).1 + (qn (a_s A) i + 1), xh (a_s A) (pn (a_s A) i) (qn (a_s A) i) (gns (a_s A) t0 (a_h A) i).1 (gns (a_s A) t0 (a_h A) i).2.1, (gns (a_s A) t0 (a_h A) i).2.2) := by
          show (if xc _ _ _ _ _ = 0 then _ else _) = _
          rw [if_pos h78]
        rw [show (gns (a_s A) t0 (a_h A) i).2.2 = (gns (a_s A) t0 (a_h A) (i + 1)).2.2 from by rw [hz]]
        exact ih (i + 1) e (by omega) (hd.trans e0) eS (by rw [hz]; exact e1) (by rw [hz]; exact e9)
      · skip
        refine m_iinc (pc' := 84) dX10_groundsNeeded_81 rfl (by decide) (v := (gns (a_s A) t0 (a_h A) i).2.2 + 1) rfl rfl rfl ?_
        refine m_aload_n (pc' := 85) dX10_groundsNeeded_84 rfl rfl ?_
        refine m_getR (pc' := 88) fa_X10_groundsNeeded_26 dX10_groundsNeeded_85 (by decide) rfl rfl rfl rfl ?_
        refine m_fload_n (pc' := 89) dX10_groundsNeeded_88 rfl rfl ?_
        refine m_iload (pc' := 91) dX10_groundsNeeded_89 rfl rfl ?_
        refine m_callV (pc' := 94) (A := [.float ((gns (a_s A) t0 (a_h A) i).2.1), .int (nI (gns (a_s A) t0 (a_h A) i).1)]) (rest := []) (b := 189) cl_X10_groundsNeeded_140 dX10_groundsNeeded_91 rfl rfl (Nat.le_of_ble_eq_true rfl) ⟨by decide, by decide⟩ (by decide) rfl rfl rfl rfl ?_
        refine c_start (fun b b0 b1 b9 => ?_)
        show mM G mX10_groundsNeeded 94 [some (.ref 0), some (.int ((gns (a_s A) t0 (a_h A) i).2.2 + 1)), some (.int (nI i)), some (.float ((gns (a_s A) t0 (a_h A) i).2.1)), some (.int (nI (gns (a_s A) t0 (a_h A) i).1))] [] S1 b (0, 0) Q
        have bS := eS.cv (by decide) b0
        refine m_aload_n (pc' := 95) dX10_groundsNeeded_94 rfl rfl ?_
        refine m_getR (pc' := 98) fa_X10_groundsNeeded_26 dX10_groundsNeeded_95 (by decide) rfl rfl rfl rfl ?_
        refine m_aload_n (pc' := 99) dX10_groundsNeeded_98 rfl rfl ?_
        refine m_getR (pc' := 102) fa_X10_groundsNeeded_10 dX10_groundsNeeded_99 (by decide) rfl rfl rfl rfl ?_
        refine m_getR (pc' := 105) fa_X10_groundsNeeded_64 dX10_groundsNeeded_102 (by decide) rfl rfl rfl rfl ?_
        refine m_bipush (pc' := 107) (v := 8) dX10_groundsNeeded_105 (by decide) rfl ?_
        refine m_iconst (pc' := 108) (v := 0) dX10_groundsNeeded_107 (by decide) rfl ?_
        refine m_callV (pc' := 111) (A := [.ref 2, .int 8, .int 0]) (rest := []) (b := 189) cl_X10_groundsNeeded_257 dX10_groundsNeeded_108 rfl rfl (Nat.le_of_ble_eq_true rfl) ⟨by decide, by decide⟩ (by decide) rfl rfl rfl rfl ?_
        refine c_carryOut (p := 8) (q := 0) (t := (gns (a_s A) t0 (a_h A) i).1) (h := (gns (a_s A) t0 (a_h A) i).2.1) (s := a_s A) (by decide) bS (by decide) hc (by decide) (by have := gns_le (t0 := t0) (h0 := a_h A) hl i (by omega); omega) b1 b9 (fun f f0 fS f1 f9 f2 f3 f4 => ?_)
        show mM G mX10_groundsNeeded 111 [some (.ref 0), some (.int ((gns (a_s A) t0 (a_h A) i).2.2 + 1)), some (.int (nI i)), some (.float ((gns (a_s A) t0 (a_h A) i).2.1)), some (.int (nI (gns (a_s A) t0 (a_h A) i).1))] [] S1 f (0, 0) Q
        refine m_aload_n (pc' := 112) dX10_groundsNeeded_111 rfl rfl ?_
        refine m_getR (pc' := 115) fa_X10_groundsNeeded_26 dX10_groundsNeeded_112 (by decide) rfl rfl rfl rfl ?_
        refine m_aload_n (pc' := 116) dX10_groundsNeeded_115 rfl rfl ?_
        refine m_getR (pc' := 119) fa_X10_groundsNeeded_10 dX10_groundsNeeded_116 (by decide) rfl rfl rfl rfl ?_
        refine m_getR (pc' := 122) fa_X10_groundsNeeded_64 dX10_groundsNeeded_119 (by decide) rfl rfl rfl rfl ?_
        refine m_iload_n (pc' := 123) dX10_groundsNeeded_122 rfl rfl ?_
        refine m_callV (pc' := 126) (A := [.ref 2, .int (nI i)]) (rest := []) (b := 189) cl_X10_groundsNeeded_266 dX10_groundsNeeded_123 rfl rfl (Nat.le_of_ble_eq_true rfl) ⟨by decide, by decide⟩ (by decide) rfl rfl rfl rfl ?_
        refine c_entry (n := n) (i := i) (t := (gns (a_s A) t0 (a_h A) i).1 + 1) (h := slt (a_s A) 8 (nI (gns (a_s A) t0 (a_h A) i).1) (gns (a_s A) t0 (a_h A) i).2.1) (s := a_s A) (by decide) fS hl (by omega) hc (by have := gns_le (t0 := t0) (h0 := a_h A) hl i (by omega); omega) f1 f9 (fun g g0 gS g1 g9 g2 g3 g4 => ?_)
        show mM G mX10_groundsNeeded 126 [some (.ref 0), some (.int ((gns (a_s A) t0 (a_h A) i).2.2 + 1)), some (.int (nI i)), some (.float ((gns (a_s A) t0 (a_h A) i).2.1)), some (.int (nI (gns (a_s A) t0 (a_h A) i).1))] [] S1 g (0, 0) Q
        refine m_iinc (pc' := 129) dX10_groundsNeeded_126 rfl (by decide) (v := nI (i + 1)) (nI_1 i) rfl rfl ?_
        refine m_goto (tgt := 25) dX10_groundsNeeded_129 (by decide) ?_
        refine m_drop 3 (lo' := [some (.ref 0), some (.int ((gns (a_s A) t0 (a_h A) i).2.2 + 1)), some (.int (nI (i + 1))), none, some (.int (nI (gns (a_s A) t0 (a_h A) i).1))]) rfl ?_
        refine m_drop 4 (lo' := [some (.ref 0), some (.int ((gns (a_s A) t0 (a_h A) i).2.2 + 1)), some (.int (nI (i + 1))), none, none]) rfl ?_
        have hz : gns (a_s A) t0 (a_h A) (i + 1) = ((gns (a_s A) t0 (a_h A) i).1 + 1 + (qn (a_s A) i + 1), xh (a_s A) (pn (a_s A) i) (qn (a_s A) i) ((gns (a_s A) t0 (a_h A) i).1 + 1) (slt (a_s A) 8 (nI (gns (a_s A) t0 (a_h A) i).1) (gns (a_s A) t0 (a_h A) i).2.1), (gns (a_s A) t0 (a_h A) i).2.2 + 1) := by
          show (if xc _ _ _ _ _ = 0 then _ else _) = _
          rw [if_neg h78]
        rw [show (gns (a_s A) t0 (a_h A) i).2.2 + 1 = (gns (a_s A) t0 (a_h A) (i + 1)).2.2 from by rw [hz]]
        exact ih (i + 1) g (by omega) ((((hd.trans e0).trans b0).trans f0).trans g0) gS (by rw [hz]; exact g1) (by rw [hz]; exact g9)
  refine mC_of (by decide +kernel) ⟨_, rfl⟩ (Nat.le_of_ble_eq_true rfl) ?_
  show mM G mX10_groundsNeeded 0 [some (.ref 0), none, none, none, none] [] S1 d (0, 0) Q
  refine m_iconst (pc' := 1) (v := 0) dX10_groundsNeeded_0 (by decide) rfl ?_
  refine m_istore_n (pc' := 2) dX10_groundsNeeded_1 (by decide) rfl rfl ?_
  refine m_aload_n (pc' := 3) dX10_groundsNeeded_2 rfl rfl ?_
  refine m_getR (pc' := 6) fa_X10_groundsNeeded_26 dX10_groundsNeeded_3 (by decide) rfl rfl rfl rfl ?_
  refine m_aload_n (pc' := 7) dX10_groundsNeeded_6 rfl rfl ?_
  refine m_getR (pc' := 10) fa_X10_groundsNeeded_10 dX10_groundsNeeded_7 (by decide) rfl rfl rfl rfl ?_
  refine m_getF (pc' := 13) fa_X10_groundsNeeded_136 dX10_groundsNeeded_10 (by decide) rfl rfl rfl ?_
  rw [show (d.2 1 6) = (a_h A) from hC.1.2.2.2.2.2.2]
  refine m_aload_n (pc' := 14) dX10_groundsNeeded_13 rfl rfl ?_
  refine m_getR (pc' := 17) fa_X10_groundsNeeded_10 dX10_groundsNeeded_14 (by decide) rfl rfl rfl rfl ?_
  refine m_callV (pc' := 20) (A := []) (rest := [.float (a_h A), .ref 189]) (b := 1) cl_X10_groundsNeeded_121 dX10_groundsNeeded_17 rfl rfl (Nat.le_of_ble_eq_true rfl) ⟨by decide, by decide⟩ (by decide) rfl rfl rfl rfl ?_
  refine c_time hC.1 hO.1.2.2.2.2.2 ?_
  show mM G mX10_groundsNeeded 20 [some (.ref 0), some (.int 0), none, none, none] [.int (a_s A 76), .float (a_h A), .ref 189] S1 d (0, 0) Q
  refine m_callV (pc' := 23) (A := [.float (a_h A), .int (a_s A 76)]) (rest := []) (b := 189) cl_X10_groundsNeeded_140 dX10_groundsNeeded_20 rfl rfl (Nat.le_of_ble_eq_true rfl) ⟨by decide, by decide⟩ (by decide) rfl rfl rfl rfl ?_
  refine c_start (fun b b0 b1 b9 => ?_)
  show mM G mX10_groundsNeeded 23 [some (.ref 0), some (.int 0), none, none, none] [] S1 b (0, 0) Q
  refine m_iconst (pc' := 24) (v := 0) dX10_groundsNeeded_23 (by decide) rfl ?_
  refine m_istore_n (pc' := 25) dX10_groundsNeeded_24 (by decide) rfl rfl ?_
  exact J n 0 b (by omega) b0 (hC.1.1.cv (by decide) b0) (b1.trans et76) b9
end CLS21
