/-! THE CHECK'S OWN CALLS (9): items of the text -/
section MOD13
variable {G : GP} {Q : Option Value → Sh → Dt → Prop} {d : Dt} {t s : SS} {n p c : Nat}
set_option maxHeartbeats 4000000 in
set_option maxRecDepth 100000 in
theorem c_rdEntry {l : Int32} (hT : TX t n p s d) (hp : p ≤ n) (hn : n ≤ 140) (hm : okm s) (hQ : ∀ d', fr ldE nE d d' → TX t n (pEntry t n l p s).2.1 (pEntry t n l p s).2.2 d' → Q (some (.int (pEntry t n l p s).1)) S1 d') : mC G mX11_readsEntry [.ref 214, .int l] S1 d Q := by
  refine mC_of (by decide +kernel) ⟨_, rfl⟩ (Nat.le_of_ble_eq_true rfl) ?_
  show mM G mX11_readsEntry 0 [some (.ref 214), some (.int l), none] [] S1 d (0, 0) Q
  refine m_aload_n (pc' := 1) dX11_readsEntry_0 rfl rfl ?_
  refine m_callV (pc' := 4) (A := []) (rest := []) (b := 214) cl_X11_readsEntry_153 dX11_readsEntry_1 rfl rfl (Nat.le_of_ble_eq_true rfl) ⟨by decide, by decide⟩ (by decide) rfl rfl rfl rfl ?_
  refine c_mhere (p := p) (P := skp t n p) (t := t) (n := n) hT hp hn rfl (fun e e0 eT => ?_)
  show mM G mX11_readsEntry 4 [some (.ref 214), some (.int l), none] [.int (sgn t n (skp t n p))] S1 e (0, 0) Q
  refine m_bipush (pc' := 6) (v := 58) dX11_readsEntry_4 (by decide) rfl ?_
  refine m_icmp_ne (tgt := 21) (pc' := 9) dX11_readsEntry_6 (by decide) rfl (fun h6 => ?_) (fun h6 => ?_)
  · skip
    refine m_iconst (pc' := 22) (v := 0) dX11_readsEntry_21 (by decide) rfl ?_
    refine m_iret dX11_readsEntry_22 rfl (by decide) ⟨by decide, by decide⟩ ?_
    rw [show pEntry t n l p s = (0, skp t n p, s) from if_pos (Or.inl h6)] at hQ
    exact hQ e e0 eT
  · skip
    refine m_aload_n (pc' := 10) dX11_readsEntry_9 rfl rfl ?_
    refine m_getR (pc' := 13) fa_X11_readsEntry_7 dX11_readsEntry_10 (by decide) rfl rfl rfl rfl ?_
    refine m_bipush (pc' := 15) (v := 43) dX11_readsEntry_13 (by decide) rfl ?_
    refine m_ialdN (pc' := 16) (j := 43) (L := 408) dX11_readsEntry_15 (by decide) rfl rfl (rfl) (by decide) (by decide) rfl ?_
    rw [show (e.1 215 43) = (s 43) from congrFun eT.2.2.2 43]
    refine m_bipush (pc' := 18) (v := 16) dX11_readsEntry_16 (by decide) rfl ?_
    refine m_icmp_ne (tgt := 23) (pc' := 21) dX11_readsEntry_18 (by decide) rfl (fun h18 => ?_) (fun h18 => ?_)
    · skip
      refine m_aload_n (pc' := 24) dX11_readsEntry_23 rfl rfl ?_
      refine m_dup (pc' := 25) dX11_readsEntry_24 rfl ?_
      refine m_getI (pc' := 28) fa_X11_readsEntry_150 dX11_readsEntry_25 (by decide) rfl rfl rfl ?_
      rw [show (e.1 214 15) = (nI (skp t n p)) from eT.2.2.1]
      refine m_iconst (pc' := 29) (v := 1) dX11_readsEntry_28 (by decide) rfl ?_
      refine m_iadd (pc' := 30) dX11_readsEntry_29 rfl ?_
      rw [show ((nI (skp t n p)) + 1) = (nI (skp t n p + 1)) from nI_1 _]
      refine m_putI (pc' := 33) (ty := .int) fa_X11_readsEntry_150 dX11_readsEntry_30 (by decide +kernel) rfl rfl (by decide) rfl rfl rfl ?_
      refine m_aload_n (pc' := 34) dX11_readsEntry_33 rfl rfl ?_
      refine m_iconst (pc' := 35) (v := 0) dX11_readsEntry_34 (by decide) rfl ?_
      refine m_bipush (pc' := 37) (v := 7) dX11_readsEntry_35 (by decide) rfl ?_
      refine m_callV (pc' := 40) (A := [.int 0, .int 7]) (rest := []) (b := 214) cl_X11_readsEntry_160 dX11_readsEntry_37 rfl rfl (Nat.le_of_ble_eq_true rfl) ⟨by decide, by decide⟩ (by decide) rfl rfl rfl rfl ?_
      refine c_mreads (p := (skp t n p + 1)) (t := t) (n := n) (s := s) (eT.nx rfl) (sgn_lt h6 (by decide)) hn (fun f f0 fT fN => ?_)
      show mM G mX11_readsEntry 40 [some (.ref 214), some (.int l), none] [.int (rdr t n 0 7 (skp t n p + 1))] S1 f (0, 0) Q
      refine m_if_ne (tgt := 45) (pc' := 43) dX11_readsEntry_40 (by decide) rfl (fun h40 => ?_) (fun h40 => ?_)
      · skip
        refine m_aload_n (pc' := 46) dX11_readsEntry_45 rfl rfl ?_
        refine m_getI (pc' := 49) fa_X11_readsEntry_157 dX11_readsEntry_46 (by decide) rfl rfl rfl ?_
        rw [show (f.1 214 16) = (rdv t n (skp t n p + 1)) from fN]
        refine m_istore_n (pc' := 50) dX11_readsEntry_49 (by decide) rfl rfl ?_
        refine m_aload_n (pc' := 51) dX11_readsEntry_50 rfl rfl ?_
        refine m_bipush (pc' := 53) (v := 59) dX11_readsEntry_51 (by decide) rfl ?_
        refine m_callV (pc' := 56) (A := [.int 59]) (rest := []) (b := 214) cl_X11_readsEntry_164 dX11_readsEntry_53 rfl rfl (Nat.le_of_ble_eq_true rfl) ⟨by decide, by decide⟩ (by decide) rfl rfl rfl rfl ?_
        refine c_mtakes (p := (rdp t n 0 7 (skp t n p + 1))) (t := t) (n := n) (s := s) fT (rdp_le (sgn_lt h6 (by decide))) hn (fun g g0 gT => ?_)
        show mM G mX11_readsEntry 56 [some (.ref 214), some (.int l), some (.int (rdv t n (skp t n p + 1)))] [.int (tkv t n 59 (rdp t n 0 7 (skp t n p + 1)))] S1 g (0, 0) Q
        refine m_if_ne (tgt := 61) (pc' := 59) dX11_readsEntry_56 (by decide) rfl (fun h56 => ?_) (fun h56 => ?_)
        · skip
          refine m_aload_n (pc' := 62) dX11_readsEntry_61 rfl rfl ?_
          refine m_iload_n (pc' := 63) dX11_readsEntry_62 rfl rfl ?_
          refine m_iload_n (pc' := 64) dX11_readsEntry_63 rfl rfl ?_
          refine m_aload_n (pc' := 65) dX11_readsEntry_64 rfl rfl ?_
          refine m_getR (pc' := 68) fa_X11_readsEntry_7 dX11_readsEntry_65 (by decide) rfl rfl rfl rfl ?_
          refine m_bipush (pc' := 70) (v := 43) dX11_readsEntry_68 (by decide) rfl ?_
          refine m_ialdN (pc' := 71) (j := 43) (L := 408) dX11_readsEntry_70 (by decide) rfl rfl (rfl) (by decide) (by decide) rfl ?_
          rw [show (g.1 215 43) = (nI (nn (s 43))) from (congrFun gT.2.2.2 43).trans (okm_n hm).1]
          refine m_callV (pc' := 74) (A := [.int l, .int (rdv t n (skp t n p + 1)), .int (nI (nn (s 43)))]) (rest := []) (b := 214) cl_X11_readsEntry_123 dX11_readsEntry_71 rfl rfl (Nat.le_of_ble_eq_true rfl) ⟨by decide, by decide⟩ (by decide) rfl rfl rfl rfl ?_
          refine c_minsert (n := nn (s 43)) (b := nn (s 43)) (s := s) gT.2.2.2 (okm_n hm).1 (Nat.le_refl _) (by have := (okm_n hm).2; omega) (fun k k0 k1 => ?_)
          show mM G mX11_readsEntry 74 [some (.ref 214), some (.int l), some (.int (rdv t n (skp t n p + 1)))] [] S1 k (0, 0) Q
          refine m_iconst (pc' := 75) (v := 1) dX11_readsEntry_74 (by decide) rfl ?_
          refine m_iret dX11_readsEntry_75 rfl (by decide) ⟨by decide, by decide⟩ ?_
          have e1 : pEntry t n l p s = pEnt1 t n l (skp t n p + 1) s := if_neg (fun h => h.elim (fun h => h h6) h18)
          have ff := (e0.i _ (Or.inr ⟨rfl, Or.inl rfl⟩)).trans f0
          have e2 : pEnt1 t n l (skp t n p + 1) s = pEnt2 t n l (rdv t n (skp t n p + 1)) (rdp t n 0 7 (skp t n p + 1)) s := if_pos (rdr_y h40)
          rw [(e1.trans e2).trans (show pEnt2 t n l (rdv t n (skp t n p + 1)) (rdp t n 0 7 (skp t n p + 1)) s = (1, tkp t n 59 (rdp t n 0 7 (skp t n p + 1)), ins s (nn (s 43)) (nn (s 43)) l (rdv t n (skp t n p + 1))) from if_pos (tkv_y h56))] at hQ
          exact hQ k ((ff.trans g0).trans (row_ld k0)) (gT.ro k0 k1)
        · skip
          refine m_iconst (pc' := 60) (v := 0) dX11_readsEntry_59 (by decide) rfl ?_
          refine m_iret dX11_readsEntry_60 rfl (by decide) ⟨by decide, by decide⟩ ?_
          have e1 : pEntry t n l p s = pEnt1 t n l (skp t n p + 1) s := if_neg (fun h => h.elim (fun h => h h6) h18)
          have ff := (e0.i _ (Or.inr ⟨rfl, Or.inl rfl⟩)).trans f0
          have e2 : pEnt1 t n l (skp t n p + 1) s = pEnt2 t n l (rdv t n (skp t n p + 1)) (rdp t n 0 7 (skp t n p + 1)) s := if_pos (rdr_y h40)
          rw [(e1.trans e2).trans (show pEnt2 t n l (rdv t n (skp t n p + 1)) (rdp t n 0 7 (skp t n p + 1)) s = (0, tkp t n 59 (rdp t n 0 7 (skp t n p + 1)), s) from if_neg (tkv_n h56))] at hQ
          exact hQ g (ff.trans g0) gT
      · skip
        refine m_iconst (pc' := 44) (v := 0) dX11_readsEntry_43 (by decide) rfl ?_
        refine m_iret dX11_readsEntry_44 rfl (by decide) ⟨by decide, by decide⟩ ?_
        have e1 : pEntry t n l p s = pEnt1 t n l (skp t n p + 1) s := if_neg (fun h => h.elim (fun h => h h6) h18)
        have ff := (e0.i _ (Or.inr ⟨rfl, Or.inl rfl⟩)).trans f0
        rw [e1.trans (show pEnt1 t n l (skp t n p + 1) s = (0, (rdp t n 0 7 (skp t n p + 1)), s) from if_neg (rdr_n h40))] at hQ
        exact hQ f ff fT
    · skip
      refine m_iconst (pc' := 22) (v := 0) dX11_readsEntry_21 (by decide) rfl ?_
      refine m_iret dX11_readsEntry_22 rfl (by decide) ⟨by decide, by decide⟩ ?_
      rw [show pEntry t n l p s = (0, skp t n p, s) from if_pos (Or.inr h18)] at hQ
      exact hQ e e0 eT
set_option maxHeartbeats 4000000 in
set_option maxRecDepth 100000 in
theorem c_rdRes  (hT : TX t n p s d) (hp : p ≤ n) (hn : n ≤ 140) (hm : okm s) (hc : c < 8) (hQ : ∀ d', fr ldE nE d d' → TX t n (pRes t n c p s).2.1 (pRes t n c p s).2.2 d' → Q (some (.int (pRes t n c p s).1)) S1 d') : mC G mX11_readsResistance [.ref 214, .int (nI c)] S1 d Q := by
  refine mC_of (by decide +kernel) ⟨_, rfl⟩ (Nat.le_of_ble_eq_true rfl) ?_
  show mM G mX11_readsResistance 0 [some (.ref 214), some (.int (nI c))] [] S1 d (0, 0) Q
  refine m_aload_n (pc' := 1) dX11_readsResistance_0 rfl rfl ?_
  refine m_iconst (pc' := 2) (v := 0) dX11_readsResistance_1 (by decide) rfl ?_
  refine m_bipush (pc' := 4) (v := 31) dX11_readsResistance_2 (by decide) rfl ?_
  refine m_callV (pc' := 7) (A := [.int 0, .int 31]) (rest := []) (b := 214) cl_X11_readsResistance_160 dX11_readsResistance_4 rfl rfl (Nat.le_of_ble_eq_true rfl) ⟨by decide, by decide⟩ (by decide) rfl rfl rfl rfl ?_
  refine c_mreads (p := p) (t := t) (n := n) (s := s) hT hp hn (fun f f0 fT fN => ?_)
  show mM G mX11_readsResistance 7 [some (.ref 214), some (.int (nI c))] [.int (rdr t n 0 31 p)] S1 f (0, 0) Q
  refine m_if_ne (tgt := 12) (pc' := 10) dX11_readsResistance_7 (by decide) rfl (fun h7 => ?_) (fun h7 => ?_)
  · skip
    refine m_aload_n (pc' := 13) dX11_readsResistance_12 rfl rfl ?_
    refine m_getR (pc' := 16) fa_X11_readsResistance_7 dX11_readsResistance_13 (by decide) rfl rfl rfl rfl ?_
    refine m_iconst (pc' := 17) (v := 5) dX11_readsResistance_16 (by decide) rfl ?_
    refine m_iload_n (pc' := 18) dX11_readsResistance_17 rfl rfl ?_
    refine m_imul (pc' := 19) dX11_readsResistance_18 rfl ?_
    refine m_iconst (pc' := 20) (v := 4) dX11_readsResistance_19 (by decide) rfl ?_
    refine m_iadd (pc' := 21) dX11_readsResistance_20 rfl ?_
    refine m_aload_n (pc' := 22) dX11_readsResistance_21 rfl rfl ?_
    refine m_getI (pc' := 25) fa_X11_readsResistance_157 dX11_readsResistance_22 (by decide) rfl rfl rfl ?_
    rw [show (f.1 214 16) = (rdv t n p) from fN]
    refine m_iastN (pc' := 26) (j := 5 * c + 4) (L := 408) dX11_readsResistance_25 (by decide) rfl rfl (ix_c c 4) (by omega) (by decide) rfl ?_
    refine m_aload_n (pc' := 27) dX11_readsResistance_26 rfl rfl ?_
    refine m_bipush (pc' := 29) (v := 59) dX11_readsResistance_27 (by decide) rfl ?_
    refine m_callV (pc' := 32) (A := [.int 59]) (rest := []) (b := 214) cl_X11_readsResistance_164 dX11_readsResistance_29 rfl rfl (Nat.le_of_ble_eq_true rfl) ⟨by decide, by decide⟩ (by decide) rfl rfl rfl rfl ?_
    refine c_mtakes (p := (rdp t n 0 31 p)) (t := t) (n := n) (s := (sU s (5 * c + 4) (rdv t n p))) (fT.ro (fr.i fr.rfl _ rfl) (u2_row fT.2.2.2)) (rdp_le hp) hn (fun g g0 gT => ?_)
    show mM G mX11_readsResistance 32 [some (.ref 214), some (.int (nI c))] [.int (tkv t n 59 (rdp t n 0 31 p))] S1 g (0, 0) Q
    refine m_iret dX11_readsResistance_32 rfl (nar_01 (tkv_01 _ _ _ _)) ⟨by decide, by decide⟩ ?_
    rw [show pRes t n c p s = pEnd t n (rdp t n 0 31 p) (sU s (5 * c + 4) (rdv t n p)) from if_pos (rdr_y h7)] at hQ
    exact hQ g ((f0.i _ (Or.inl rfl)).trans g0) gT
  · skip
    refine m_iconst (pc' := 11) (v := 0) dX11_readsResistance_10 (by decide) rfl ?_
    refine m_iret dX11_readsResistance_11 rfl (by decide) ⟨by decide, by decide⟩ ?_
    rw [show pRes t n c p s = (0, rdp t n 0 31 p, s) from if_neg (rdr_n h7)] at hQ
    exact hQ f f0 fT
set_option maxHeartbeats 4000000 in
set_option maxRecDepth 100000 in
theorem c_rdRis {l v : Int32} (hT : TX t n p s d) (hp : p ≤ n) (hn : n ≤ 140) (hm : okm s) (hc : c < 8) (hQ : ∀ d', fr ldE nE d d' → TX t n (pRis t n c l v p s).2.1 (pRis t n c l v p s).2.2 d' → Q (some (.int (pRis t n c l v p s).1)) S1 d') : mC G mX11_readsRising [.ref 214, .int (nI c), .int l, .int v] S1 d Q := by
  refine mC_of (by decide +kernel) ⟨_, rfl⟩ (Nat.le_of_ble_eq_true rfl) ?_
  show mM G mX11_readsRising 0 [some (.ref 214), some (.int (nI c)), some (.int l), some (.int v)] [] S1 d (0, 0) Q
  refine m_aload_n (pc' := 1) dX11_readsRising_0 rfl rfl ?_
  refine m_iconst (pc' := 2) (v := 0) dX11_readsRising_1 (by decide) rfl ?_
  refine m_bipush (pc' := 4) (v := 64) dX11_readsRising_2 (by decide) rfl ?_
  refine m_callV (pc' := 7) (A := [.int 0, .int 64]) (rest := []) (b := 214) cl_X11_readsRising_160 dX11_readsRising_4 rfl rfl (Nat.le_of_ble_eq_true rfl) ⟨by decide, by decide⟩ (by decide) rfl rfl rfl rfl ?_
  refine c_mreads (p := p) (t := t) (n := n) (s := s) hT hp hn (fun f f0 fT fN => ?_)
  show mM G mX11_readsRising 7 [some (.ref 214), some (.int (nI c)), some (.int l), some (.int v)] [.int (rdr t n 0 64 p)] S1 f (0, 0) Q
  refine m_if_ne (tgt := 12) (pc' := 10) dX11_readsRising_7 (by decide) rfl (fun h7 => ?_) (fun h7 => ?_)
  · skip
    refine m_aload_n (pc' := 13) dX11_readsRising_12 rfl rfl ?_
    refine m_iload_n (pc' := 14) dX11_readsRising_13 rfl rfl ?_
    refine m_iconst (pc' := 15) (v := 1) dX11_readsRising_14 (by decide) rfl ?_
    refine m_iload_n (pc' := 16) dX11_readsRising_15 rfl rfl ?_
    refine m_iload_n (pc' := 17) dX11_readsRising_16 rfl rfl ?_
    refine m_aload_n (pc' := 18) dX11_readsRising_17 rfl rfl ?_
    refine m_getI (pc' := 21) fa_X11_readsRising_157 dX11_readsRising_18 (by decide) rfl rfl rfl ?_
    rw [show (f.1 214 16) = (rdv t n p) from fN]
    refine m_imul (pc' := 22) dX11_readsRising_21 rfl ?_
    refine m_iconst (pc' := 23) (v := 0) dX11_readsRising_22 (by decide) rfl ?_
    refine m_callV (pc' := 26) (A := [.int (nI c), .int 1, .int l, .int (v * (rdv t n p)), .int 0]) (rest := []) (b := 214) cl_X11_readsRising_115 dX11_readsRising_23 rfl rfl (Nat.le_of_ble_eq_true rfl) ⟨by decide, by decide⟩ (by decide) rfl rfl rfl rfl ?_
    refine c_mputSource (c := c) (s := s) fT.2.2.2 hc (fun k k0 k1 => ?_)
    show mM G mX11_readsRising 26 [some (.ref 214), some (.int (nI c)), some (.int l), some (.int v)] [] S1 k (0, 0) Q
    refine m_aload_n (pc' := 27) dX11_readsRising_26 rfl rfl ?_
    refine m_bipush (pc' := 29) (v := 59) dX11_readsRising_27 (by decide) rfl ?_
    refine m_callV (pc' := 32) (A := [.int 59]) (rest := []) (b := 214) cl_X11_readsRising_164 dX11_readsRising_29 rfl rfl (Nat.le_of_ble_eq_true rfl) ⟨by decide, by decide⟩ (by decide) rfl rfl rfl rfl ?_
    refine c_mtakes (p := (rdp t n 0 64 p)) (t := t) (n := n) (s := (pso s c 1 l (v * rdv t n p) 0)) (fT.ro k0 k1) (rdp_le hp) hn (fun g g0 gT => ?_)
    show mM G mX11_readsRising 32 [some (.ref 214), some (.int (nI c)), some (.int l), some (.int v)] [.int (tkv t n 59 (rdp t n 0 64 p))] S1 g (0, 0) Q
    refine m_iret dX11_readsRising_32 rfl (nar_01 (tkv_01 _ _ _ _)) ⟨by decide, by decide⟩ ?_
    rw [show pRis t n c l v p s = pEnd t n (rdp t n 0 64 p) (pso s c 1 l (v * rdv t n p) 0) from if_pos (rdr_y h7)] at hQ
    exact hQ g ((f0.trans (row_ld k0)).trans g0) gT
  · skip
    refine m_iconst (pc' := 11) (v := 0) dX11_readsRising_10 (by decide) rfl ?_
    refine m_iret dX11_readsRising_11 rfl (by decide) ⟨by decide, by decide⟩ ?_
    rw [show pRis t n c l v p s = (0, rdp t n 0 64 p, s) from if_neg (rdr_n h7)] at hQ
    exact hQ f f0 fT
set_option maxHeartbeats 4000000 in
set_option maxRecDepth 100000 in
theorem c_rdJmp {l : Int32} (hT : TX t n p s d) (hp : p ≤ n) (hn : n ≤ 140) (hm : okm s) (hc : c < 8) (hQ : ∀ d', fr ldE nE d d' → TX t n (pJmp t n c l p s).2.1 (pJmp t n c l p s).2.2 d' → Q (some (.int (pJmp t n c l p s).1)) S1 d') : mC G mX11_readsJumping [.ref 214, .int (nI c), .int l] S1 d Q := by
  refine mC_of (by decide +kernel) ⟨_, rfl⟩ (Nat.le_of_ble_eq_true rfl) ?_
  show mM G mX11_readsJumping 0 [some (.ref 214), some (.int (nI c)), some (.int l), none] [] S1 d (0, 0) Q
  refine m_aload_n (pc' := 1) dX11_readsJumping_0 rfl rfl ?_
  refine m_iconst (pc' := 2) (v := 0) dX11_readsJumping_1 (by decide) rfl ?_
  refine m_sipush (pc' := 5) (v := 4095) dX11_readsJumping_2 (by decide) rfl ?_
  refine m_callV (pc' := 8) (A := [.int 0, .int 4095]) (rest := []) (b := 214) cl_X11_readsJumping_160 dX11_readsJumping_5 rfl rfl (Nat.le_of_ble_eq_true rfl) ⟨by decide, by decide⟩ (by decide) rfl rfl rfl rfl ?_
  refine c_mreads (p := p) (t := t) (n := n) (s := s) hT hp hn (fun f f0 fT fN => ?_)
  show mM G mX11_readsJumping 8 [some (.ref 214), some (.int (nI c)), some (.int l), none] [.int (rdr t n 0 4095 p)] S1 f (0, 0) Q
  refine m_if_ne (tgt := 13) (pc' := 11) dX11_readsJumping_8 (by decide) rfl (fun h8 => ?_) (fun h8 => ?_)
  · skip
    refine m_aload_n (pc' := 14) dX11_readsJumping_13 rfl rfl ?_
    refine m_getI (pc' := 17) fa_X11_readsJumping_157 dX11_readsJumping_14 (by decide) rfl rfl rfl ?_
    rw [show (f.1 214 16) = (rdv t n p) from fN]
    refine m_istore_n (pc' := 18) dX11_readsJumping_17 (by decide) rfl rfl ?_
    refine m_aload_n (pc' := 19) dX11_readsJumping_18 rfl rfl ?_
    refine m_bipush (pc' := 21) (v := 47) dX11_readsJumping_19 (by decide) rfl ?_
    refine m_callV (pc' := 24) (A := [.int 47]) (rest := []) (b := 214) cl_X11_readsJumping_164 dX11_readsJumping_21 rfl rfl (Nat.le_of_ble_eq_true rfl) ⟨by decide, by decide⟩ (by decide) rfl rfl rfl rfl ?_
    refine c_mtakes (p := (rdp t n 0 4095 p)) (t := t) (n := n) (s := s) fT (rdp_le hp) hn (fun g g0 gT => ?_)
    show mM G mX11_readsJumping 24 [some (.ref 214), some (.int (nI c)), some (.int l), some (.int (rdv t n p))] [.int (tkv t n 47 (rdp t n 0 4095 p))] S1 g (0, 0) Q
    refine m_if_eq (tgt := 38) (pc' := 27) dX11_readsJumping_24 (by decide) rfl (fun h24 => ?_) (fun h24 => ?_)
    · skip
      refine m_iconst (pc' := 39) (v := 0) dX11_readsJumping_38 (by decide) rfl ?_
      refine m_iret dX11_readsJumping_39 rfl (by decide) ⟨by decide, by decide⟩ ?_
      have e1 : pJmp t n c l p s = pJmp1 t n c l (rdv t n p) (rdp t n 0 4095 p) s := if_pos (rdr_y h8)
      rw [e1.trans (show pJmp1 t n c l (rdv t n p) (rdp t n 0 4095 p) s = (0, (tkp t n 47 (rdp t n 0 4095 p)), s) from if_neg (tkv_n h24))] at hQ
      exact hQ g (f0.trans g0) gT
    · skip
      refine m_aload_n (pc' := 28) dX11_readsJumping_27 rfl rfl ?_
      refine m_iconst (pc' := 29) (v := 2) dX11_readsJumping_28 (by decide) rfl ?_
      refine m_sipush (pc' := 32) (v := 200) dX11_readsJumping_29 (by decide) rfl ?_
      refine m_callV (pc' := 35) (A := [.int 2, .int 200]) (rest := []) (b := 214) cl_X11_readsJumping_160 dX11_readsJumping_32 rfl rfl (Nat.le_of_ble_eq_true rfl) ⟨by decide, by decide⟩ (by decide) rfl rfl rfl rfl ?_
      refine c_mreads (p := (tkp t n 47 (rdp t n 0 4095 p))) (t := t) (n := n) (s := s) gT (tkp_le (rdp_le hp) (by decide)) hn (fun y y0 yT yN => ?_)
      show mM G mX11_readsJumping 35 [some (.ref 214), some (.int (nI c)), some (.int l), some (.int (rdv t n p))] [.int (rdr t n 2 200 (tkp t n 47 (rdp t n 0 4095 p)))] S1 y (0, 0) Q
      refine m_if_ne (tgt := 40) (pc' := 38) dX11_readsJumping_35 (by decide) rfl (fun h35 => ?_) (fun h35 => ?_)
      · skip
        refine m_aload_n (pc' := 41) dX11_readsJumping_40 rfl rfl ?_
        refine m_iload_n (pc' := 42) dX11_readsJumping_41 rfl rfl ?_
        refine m_iconst (pc' := 43) (v := 2) dX11_readsJumping_42 (by decide) rfl ?_
        refine m_iload_n (pc' := 44) dX11_readsJumping_43 rfl rfl ?_
        refine m_iload_n (pc' := 45) dX11_readsJumping_44 rfl rfl ?_
        refine m_aload_n (pc' := 46) dX11_readsJumping_45 rfl rfl ?_
        refine m_getI (pc' := 49) fa_X11_readsJumping_157 dX11_readsJumping_46 (by decide) rfl rfl rfl ?_
        rw [show (y.1 214 16) = (rdv t n (tkp t n 47 (rdp t n 0 4095 p))) from yN]
        refine m_callV (pc' := 52) (A := [.int (nI c), .int 2, .int l, .int (rdv t n p), .int (rdv t n (tkp t n 47 (rdp t n 0 4095 p)))]) (rest := []) (b := 214) cl_X11_readsJumping_115 dX11_readsJumping_49 rfl rfl (Nat.le_of_ble_eq_true rfl) ⟨by decide, by decide⟩ (by decide) rfl rfl rfl rfl ?_
        refine c_mputSource (c := c) (s := s) yT.2.2.2 hc (fun k k0 k1 => ?_)
        show mM G mX11_readsJumping 52 [some (.ref 214), some (.int (nI c)), some (.int l), some (.int (rdv t n p))] [] S1 k (0, 0) Q
        refine m_aload_n (pc' := 53) dX11_readsJumping_52 rfl rfl ?_
        refine m_bipush (pc' := 55) (v := 59) dX11_readsJumping_53 (by decide) rfl ?_
        refine m_callV (pc' := 58) (A := [.int 59]) (rest := []) (b := 214) cl_X11_readsJumping_164 dX11_readsJumping_55 rfl rfl (Nat.le_of_ble_eq_true rfl) ⟨by decide, by decide⟩ (by decide) rfl rfl rfl rfl ?_
        refine c_mtakes (p := (rdp t n 2 200 (tkp t n 47 (rdp t n 0 4095 p)))) (t := t) (n := n) (s := (pso s c 2 l (rdv t n p) (rdv t n (tkp t n 47 (rdp t n 0 4095 p))))) (yT.ro k0 k1) (rdp_le (tkp_le (rdp_le hp) (by decide))) hn (fun z z0 zT => ?_)
        show mM G mX11_readsJumping 58 [some (.ref 214), some (.int (nI c)), some (.int l), some (.int (rdv t n p))] [.int (tkv t n 59 (rdp t n 2 200 (tkp t n 47 (rdp t n 0 4095 p))))] S1 z (0, 0) Q
        refine m_iret dX11_readsJumping_58 rfl (nar_01 (tkv_01 _ _ _ _)) ⟨by decide, by decide⟩ ?_
        have e1 : pJmp t n c l p s = pJmp1 t n c l (rdv t n p) (rdp t n 0 4095 p) s := if_pos (rdr_y h8)
        have e2 : pJmp1 t n c l (rdv t n p) (rdp t n 0 4095 p) s = pJmp2 t n c l (rdv t n p) (tkp t n 47 (rdp t n 0 4095 p)) s := if_pos (tkv_y h24)
        rw [(e1.trans e2).trans (show pJmp2 t n c l (rdv t n p) (tkp t n 47 (rdp t n 0 4095 p)) s = pEnd t n (rdp t n 2 200 (tkp t n 47 (rdp t n 0 4095 p))) (pso s c 2 l (rdv t n p) (rdv t n (tkp t n 47 (rdp t n 0 4095 p)))) from if_pos (rdr_y h35))] at hQ
        exact hQ z ((((f0.trans g0).trans y0).trans (row_ld k0)).trans z0) zT
      · skip
        refine m_iconst (pc' := 39) (v := 0) dX11_readsJumping_38 (by decide) rfl ?_
        refine m_iret dX11_readsJumping_39 rfl (by decide) ⟨by decide, by decide⟩ ?_
        have e1 : pJmp t n c l p s = pJmp1 t n c l (rdv t n p) (rdp t n 0 4095 p) s := if_pos (rdr_y h8)
        have e2 : pJmp1 t n c l (rdv t n p) (rdp t n 0 4095 p) s = pJmp2 t n c l (rdv t n p) (tkp t n 47 (rdp t n 0 4095 p)) s := if_pos (tkv_y h24)
        rw [(e1.trans e2).trans (show pJmp2 t n c l (rdv t n p) (tkp t n 47 (rdp t n 0 4095 p)) s = (0, (rdp t n 2 200 (tkp t n 47 (rdp t n 0 4095 p))), s) from if_neg (rdr_n h35))] at hQ
        exact hQ y ((f0.trans g0).trans y0) yT
  · skip
    refine m_iconst (pc' := 12) (v := 0) dX11_readsJumping_11 (by decide) rfl ?_
    refine m_iret dX11_readsJumping_12 rfl (by decide) ⟨by decide, by decide⟩ ?_
    rw [show pJmp t n c l p s = (0, (rdp t n 0 4095 p), s) from if_neg (rdr_n h8)] at hQ
    exact hQ f f0 fT
set_option maxHeartbeats 4000000 in
set_option maxRecDepth 100000 in
theorem c_rdSrc  (hT : TX t n p s d) (hp : p ≤ n) (hn : n ≤ 140) (hm : okm s) (hc : c < 8) (hQ : ∀ d', fr ldE nE d d' → TX t n (pSrc t n c p s).2.1 (pSrc t n c p s).2.2 d' → Q (some (.int (pSrc t n c p s).1)) S1 d') : mC G mX11_readsSource [.ref 214, .int (nI c)] S1 d Q := by
  refine mC_of (by decide +kernel) ⟨_, rfl⟩ (Nat.le_of_ble_eq_true rfl) ?_
  show mM G mX11_readsSource 0 [some (.ref 214), some (.int (nI c)), none] [] S1 d (0, 0) Q
  refine m_aload_n (pc' := 1) dX11_readsSource_0 rfl rfl ?_
  refine m_iconst (pc' := 2) (v := 0) dX11_readsSource_1 (by decide) rfl ?_
  refine m_sipush (pc' := 5) (v := 4095) dX11_readsSource_2 (by decide) rfl ?_
  refine m_callV (pc' := 8) (A := [.int 0, .int 4095]) (rest := []) (b := 214) cl_X11_readsSource_160 dX11_readsSource_5 rfl rfl (Nat.le_of_ble_eq_true rfl) ⟨by decide, by decide⟩ (by decide) rfl rfl rfl rfl ?_
  refine c_mreads (p := p) (t := t) (n := n) (s := s) hT hp hn (fun f f0 fT fN => ?_)
  show mM G mX11_readsSource 8 [some (.ref 214), some (.int (nI c)), none] [.int (rdr t n 0 4095 p)] S1 f (0, 0) Q
  refine m_if_ne (tgt := 13) (pc' := 11) dX11_readsSource_8 (by decide) rfl (fun h8 => ?_) (fun h8 => ?_)
  · skip
    refine m_aload_n (pc' := 14) dX11_readsSource_13 rfl rfl ?_
    refine m_getI (pc' := 17) fa_X11_readsSource_157 dX11_readsSource_14 (by decide) rfl rfl rfl ?_
    rw [show (f.1 214 16) = (rdv t n p) from fN]
    refine m_istore_n (pc' := 18) dX11_readsSource_17 (by decide) rfl rfl ?_
    refine m_aload_n (pc' := 19) dX11_readsSource_18 rfl rfl ?_
    refine m_bipush (pc' := 21) (v := 43) dX11_readsSource_19 (by decide) rfl ?_
    refine m_callV (pc' := 24) (A := [.int 43]) (rest := []) (b := 214) cl_X11_readsSource_164 dX11_readsSource_21 rfl rfl (Nat.le_of_ble_eq_true rfl) ⟨by decide, by decide⟩ (by decide) rfl rfl rfl rfl ?_
    refine c_mtakes (p := (rdp t n 0 4095 p)) (t := t) (n := n) (s := s) fT (rdp_le hp) hn (fun g g0 gT => ?_)
    show mM G mX11_readsSource 24 [some (.ref 214), some (.int (nI c)), some (.int (rdv t n p))] [.int (tkv t n 43 (rdp t n 0 4095 p))] S1 g (0, 0) Q
    refine m_if_eq (tgt := 35) (pc' := 27) dX11_readsSource_24 (by decide) rfl (fun h24 => ?_) (fun h24 => ?_)
    · skip
      refine m_aload_n (pc' := 36) dX11_readsSource_35 rfl rfl ?_
      refine m_bipush (pc' := 38) (v := 45) dX11_readsSource_36 (by decide) rfl ?_
      refine m_callV (pc' := 41) (A := [.int 45]) (rest := []) (b := 214) cl_X11_readsSource_164 dX11_readsSource_38 rfl rfl (Nat.le_of_ble_eq_true rfl) ⟨by decide, by decide⟩ (by decide) rfl rfl rfl rfl ?_
      refine c_mtakes (p := (tkp t n 43 (rdp t n 0 4095 p))) (t := t) (n := n) (s := s) gT (tkp_le (rdp_le hp) (by decide)) hn (fun y y0 yT => ?_)
      show mM G mX11_readsSource 41 [some (.ref 214), some (.int (nI c)), some (.int (rdv t n p))] [.int (tkv t n 45 (tkp t n 43 (rdp t n 0 4095 p)))] S1 y (0, 0) Q
      refine m_if_eq (tgt := 52) (pc' := 44) dX11_readsSource_41 (by decide) rfl (fun h41 => ?_) (fun h41 => ?_)
      · skip
        refine m_aload_n (pc' := 53) dX11_readsSource_52 rfl rfl ?_
        refine m_bipush (pc' := 55) (v := 44) dX11_readsSource_53 (by decide) rfl ?_
        refine m_callV (pc' := 58) (A := [.int 44]) (rest := []) (b := 214) cl_X11_readsSource_164 dX11_readsSource_55 rfl rfl (Nat.le_of_ble_eq_true rfl) ⟨by decide, by decide⟩ (by decide) rfl rfl rfl rfl ?_
        refine c_mtakes (p := (tkp t n 45 (tkp t n 43 (rdp t n 0 4095 p)))) (t := t) (n := n) (s := s) yT (tkp_le (tkp_le (rdp_le hp) (by decide)) (by decide)) hn (fun x x0 xT => ?_)
        show mM G mX11_readsSource 58 [some (.ref 214), some (.int (nI c)), some (.int (rdv t n p))] [.int (tkv t n 44 (tkp t n 45 (tkp t n 43 (rdp t n 0 4095 p))))] S1 x (0, 0) Q
        refine m_if_eq (tgt := 68) (pc' := 61) dX11_readsSource_58 (by decide) rfl (fun h58 => ?_) (fun h58 => ?_)
        · skip
          refine m_aload_n (pc' := 69) dX11_readsSource_68 rfl rfl ?_
          refine m_iload_n (pc' := 70) dX11_readsSource_69 rfl rfl ?_
          refine m_iconst (pc' := 71) (v := 0) dX11_readsSource_70 (by decide) rfl ?_
          refine m_iload_n (pc' := 72) dX11_readsSource_71 rfl rfl ?_
          refine m_iconst (pc' := 73) (v := 0) dX11_readsSource_72 (by decide) rfl ?_
          refine m_iconst (pc' := 74) (v := 0) dX11_readsSource_73 (by decide) rfl ?_
          refine m_callV (pc' := 77) (A := [.int (nI c), .int 0, .int (rdv t n p), .int 0, .int 0]) (rest := []) (b := 214) cl_X11_readsSource_115 dX11_readsSource_74 rfl rfl (Nat.le_of_ble_eq_true rfl) ⟨by decide, by decide⟩ (by decide) rfl rfl rfl rfl ?_
          refine c_mputSource (c := c) (s := s) xT.2.2.2 hc (fun k k0 k1 => ?_)
          show mM G mX11_readsSource 77 [some (.ref 214), some (.int (nI c)), some (.int (rdv t n p))] [] S1 k (0, 0) Q
          refine m_aload_n (pc' := 78) dX11_readsSource_77 rfl rfl ?_
          refine m_bipush (pc' := 80) (v := 59) dX11_readsSource_78 (by decide) rfl ?_
          refine m_callV (pc' := 83) (A := [.int 59]) (rest := []) (b := 214) cl_X11_readsSource_164 dX11_readsSource_80 rfl rfl (Nat.le_of_ble_eq_true rfl) ⟨by decide, by decide⟩ (by decide) rfl rfl rfl rfl ?_
          refine c_mtakes (p := (tkp t n 44 (tkp t n 45 (tkp t n 43 (rdp t n 0 4095 p))))) (t := t) (n := n) (s := (pso s c 0 (rdv t n p) 0 0)) (xT.ro k0 k1) (tkp_le (tkp_le (tkp_le (rdp_le hp) (by decide)) (by decide)) (by decide)) hn (fun z z0 zT => ?_)
          show mM G mX11_readsSource 83 [some (.ref 214), some (.int (nI c)), some (.int (rdv t n p))] [.int (tkv t n 59 (tkp t n 44 (tkp t n 45 (tkp t n 43 (rdp t n 0 4095 p)))))] S1 z (0, 0) Q
          refine m_iret dX11_readsSource_83 rfl (nar_01 (tkv_01 _ _ _ _)) ⟨by decide, by decide⟩ ?_
          have e1 : pSrc t n c p s = pSrc1 t n c (rdv t n p) (rdp t n 0 4095 p) s := if_pos (rdr_y h8)
          have e2 := e1.trans (show pSrc1 t n c (rdv t n p) (rdp t n 0 4095 p) s = pSrc2 t n c (rdv t n p) (tkp t n 43 (rdp t n 0 4095 p)) s from if_neg (tkv_n h24))
          have e3 := e2.trans (show pSrc2 t n c (rdv t n p) (tkp t n 43 (rdp t n 0 4095 p)) s = pSrc3 t n c (rdv t n p) (tkp t n 45 (tkp t n 43 (rdp t n 0 4095 p))) s from if_neg (tkv_n h41))
          rw [e3.trans (show pSrc3 t n c (rdv t n p) (tkp t n 45 (tkp t n 43 (rdp t n 0 4095 p))) s = pEnd t n (tkp t n 44 (tkp t n 45 (tkp t n 43 (rdp t n 0 4095 p)))) (pso s c 0 (rdv t n p) 0 0) from if_neg (tkv_n h58))] at hQ
          exact hQ z (((((f0.trans g0).trans y0).trans x0).trans (row_ld k0)).trans z0) zT
        · skip
          refine m_aload_n (pc' := 62) dX11_readsSource_61 rfl rfl ?_
          refine m_iload_n (pc' := 63) dX11_readsSource_62 rfl rfl ?_
          refine m_iload_n (pc' := 64) dX11_readsSource_63 rfl rfl ?_
          refine m_callV (pc' := 67) (A := [.int (nI c), .int (rdv t n p)]) (rest := []) (b := 214) cl_X11_readsSource_170 dX11_readsSource_64 rfl rfl (Nat.le_of_ble_eq_true rfl) ⟨by decide, by decide⟩ (by decide) rfl rfl rfl rfl ?_
          refine c_rdJmp (p := (tkp t n 44 (tkp t n 45 (tkp t n 43 (rdp t n 0 4095 p))))) (t := t) (n := n) (s := s) xT (tkp_le (tkp_le (tkp_le (rdp_le hp) (by decide)) (by decide)) (by decide)) hn hm hc (fun z z0 zT => ?_)
          show mM G mX11_readsSource 67 [some (.ref 214), some (.int (nI c)), some (.int (rdv t n p))] [.int ((pJmp t n c (rdv t n p) (tkp t n 44 (tkp t n 45 (tkp t n 43 (rdp t n 0 4095 p)))) s).1)] S1 z (0, 0) Q
          refine m_iret dX11_readsSource_67 rfl (nar_01 (pG_01 (pJmp_G (tkp_le (tkp_le (tkp_le (rdp_le hp) (by decide)) (by decide)) (by decide)) hc hm))) ⟨by decide, by decide⟩ ?_
          have e1 : pSrc t n c p s = pSrc1 t n c (rdv t n p) (rdp t n 0 4095 p) s := if_pos (rdr_y h8)
          have e2 := e1.trans (show pSrc1 t n c (rdv t n p) (rdp t n 0 4095 p) s = pSrc2 t n c (rdv t n p) (tkp t n 43 (rdp t n 0 4095 p)) s from if_neg (tkv_n h24))
          have e3 := e2.trans (show pSrc2 t n c (rdv t n p) (tkp t n 43 (rdp t n 0 4095 p)) s = pSrc3 t n c (rdv t n p) (tkp t n 45 (tkp t n 43 (rdp t n 0 4095 p))) s from if_neg (tkv_n h41))
          rw [e3.trans (show pSrc3 t n c (rdv t n p) (tkp t n 45 (tkp t n 43 (rdp t n 0 4095 p))) s = pJmp t n c (rdv t n p) (tkp t n 44 (tkp t n 45 (tkp t n 43 (rdp t n 0 4095 p)))) s from if_pos (tkv_y h58))] at hQ
          exact hQ z ((((f0.trans g0).trans y0).trans x0).trans z0) zT
      · skip
        refine m_aload_n (pc' := 45) dX11_readsSource_44 rfl rfl ?_
        refine m_iload_n (pc' := 46) dX11_readsSource_45 rfl rfl ?_
        refine m_iload_n (pc' := 47) dX11_readsSource_46 rfl rfl ?_
        refine m_iconst (pc' := 48) (v := (-1)) dX11_readsSource_47 (by decide) rfl ?_
        refine m_callV (pc' := 51) (A := [.int (nI c), .int (rdv t n p), .int (-1)]) (rest := []) (b := 214) cl_X11_readsSource_167 dX11_readsSource_48 rfl rfl (Nat.le_of_ble_eq_true rfl) ⟨by decide, by decide⟩ (by decide) rfl rfl rfl rfl ?_
        refine c_rdRis (p := (tkp t n 45 (tkp t n 43 (rdp t n 0 4095 p)))) (t := t) (n := n) (s := s) yT (tkp_le (tkp_le (rdp_le hp) (by decide)) (by decide)) hn hm hc (fun z z0 zT => ?_)
        show mM G mX11_readsSource 51 [some (.ref 214), some (.int (nI c)), some (.int (rdv t n p))] [.int ((pRis t n c (rdv t n p) (-1) (tkp t n 45 (tkp t n 43 (rdp t n 0 4095 p))) s).1)] S1 z (0, 0) Q
        refine m_iret dX11_readsSource_51 rfl (nar_01 (pG_01 (pRis_G (tkp_le (tkp_le (rdp_le hp) (by decide)) (by decide)) hc hm))) ⟨by decide, by decide⟩ ?_
        have e1 : pSrc t n c p s = pSrc1 t n c (rdv t n p) (rdp t n 0 4095 p) s := if_pos (rdr_y h8)
        have e2 := e1.trans (show pSrc1 t n c (rdv t n p) (rdp t n 0 4095 p) s = pSrc2 t n c (rdv t n p) (tkp t n 43 (rdp t n 0 4095 p)) s from if_neg (tkv_n h24))
        rw [e2.trans (show pSrc2 t n c (rdv t n p) (tkp t n 43 (rdp t n 0 4095 p)) s = pRis t n c (rdv t n p) (-1) (tkp t n 45 (tkp t n 43 (rdp t n 0 4095 p))) s from if_pos (tkv_y h41))] at hQ
        exact hQ z (((f0.trans g0).trans y0).trans z0) zT
    · skip
      refine m_aload_n (pc' := 28) dX11_readsSource_27 rfl rfl ?_
      refine m_iload_n (pc' := 29) dX11_readsSource_28 rfl rfl ?_
      refine m_iload_n (pc' := 30) dX11_readsSource_29 rfl rfl ?_
      refine m_iconst (pc' := 31) (v := 1) dX11_readsSource_30 (by decide) rfl ?_
      refine m_callV (pc' := 34) (A := [.int (nI c), .int (rdv t n p), .int 1]) (rest := []) (b := 214) cl_X11_readsSource_167 dX11_readsSource_31 rfl rfl (Nat.le_of_ble_eq_true rfl) ⟨by decide, by decide⟩ (by decide) rfl rfl rfl rfl ?_
      refine c_rdRis (p := (tkp t n 43 (rdp t n 0 4095 p))) (t := t) (n := n) (s := s) gT (tkp_le (rdp_le hp) (by decide)) hn hm hc (fun z z0 zT => ?_)
      show mM G mX11_readsSource 34 [some (.ref 214), some (.int (nI c)), some (.int (rdv t n p))] [.int ((pRis t n c (rdv t n p) 1 (tkp t n 43 (rdp t n 0 4095 p)) s).1)] S1 z (0, 0) Q
      refine m_iret dX11_readsSource_34 rfl (nar_01 (pG_01 (pRis_G (tkp_le (rdp_le hp) (by decide)) hc hm))) ⟨by decide, by decide⟩ ?_
      have e1 : pSrc t n c p s = pSrc1 t n c (rdv t n p) (rdp t n 0 4095 p) s := if_pos (rdr_y h8)
      rw [e1.trans (show pSrc1 t n c (rdv t n p) (rdp t n 0 4095 p) s = pRis t n c (rdv t n p) 1 (tkp t n 43 (rdp t n 0 4095 p)) s from if_pos (tkv_y h24))] at hQ
      exact hQ z ((f0.trans g0).trans z0) zT
  · skip
    refine m_iconst (pc' := 12) (v := 0) dX11_readsSource_11 (by decide) rfl ?_
    refine m_iret dX11_readsSource_12 rfl (by decide) ⟨by decide, by decide⟩ ?_
    rw [show pSrc t n c p s = (0, (rdp t n 0 4095 p), s) from if_neg (rdr_n h8)] at hQ
    exact hQ f f0 fT
set_option maxHeartbeats 4000000 in
set_option maxRecDepth 100000 in
theorem c_rdItem  (hT : TX t n p s d) (hp : p ≤ n) (hn : n ≤ 140) (hm : okm s) (hQ : ∀ d', fr ldE nE d d' → TX t n (pItem t n p s).2.1 (pItem t n p s).2.2 d' → Q (some (.int (pItem t n p s).1)) S1 d') : mC G mX11_readsItem [.ref 214] S1 d Q := by
  refine mC_of (by decide +kernel) ⟨_, rfl⟩ (Nat.le_of_ble_eq_true rfl) ?_
  show mM G mX11_readsItem 0 [some (.ref 214), none] [] S1 d (0, 0) Q
  refine m_aload_n (pc' := 1) dX11_readsItem_0 rfl rfl ?_
  refine m_bipush (pc' := 3) (v := 103) dX11_readsItem_1 (by decide) rfl ?_
  refine m_callV (pc' := 6) (A := [.int 103]) (rest := []) (b := 214) cl_X11_readsItem_164 dX11_readsItem_3 rfl rfl (Nat.le_of_ble_eq_true rfl) ⟨by decide, by decide⟩ (by decide) rfl rfl rfl rfl ?_
  refine c_mtakes (p := p) (t := t) (n := n) (s := s) hT hp hn (fun f f0 fT => ?_)
  show mM G mX11_readsItem 6 [some (.ref 214), none] [.int (tkv t n 103 p)] S1 f (0, 0) Q
  refine m_if_eq (tgt := 16) (pc' := 9) dX11_readsItem_6 (by decide) rfl (fun h6 => ?_) (fun h6 => ?_)
  · skip
    refine m_aload_n (pc' := 17) dX11_readsItem_16 rfl rfl ?_
    refine m_bipush (pc' := 19) (v := 102) dX11_readsItem_17 (by decide) rfl ?_
    refine m_callV (pc' := 22) (A := [.int 102]) (rest := []) (b := 214) cl_X11_readsItem_164 dX11_readsItem_19 rfl rfl (Nat.le_of_ble_eq_true rfl) ⟨by decide, by decide⟩ (by decide) rfl rfl rfl rfl ?_
    refine c_mtakes (p := (tkp t n 103 p)) (t := t) (n := n) (s := s) fT (tkp_le hp (by decide)) hn (fun g g0 gT => ?_)
    show mM G mX11_readsItem 22 [some (.ref 214), none] [.int (tkv t n 102 (tkp t n 103 p))] S1 g (0, 0) Q
    refine m_if_eq (tgt := 32) (pc' := 25) dX11_readsItem_22 (by decide) rfl (fun h22 => ?_) (fun h22 => ?_)
    · skip
      refine m_aload_n (pc' := 33) dX11_readsItem_32 rfl rfl ?_
      refine m_iconst (pc' := 34) (v := 0) dX11_readsItem_33 (by decide) rfl ?_
      refine m_bipush (pc' := 36) (v := 7) dX11_readsItem_34 (by decide) rfl ?_
      refine m_callV (pc' := 39) (A := [.int 0, .int 7]) (rest := []) (b := 214) cl_X11_readsItem_160 dX11_readsItem_36 rfl rfl (Nat.le_of_ble_eq_true rfl) ⟨by decide, by decide⟩ (by decide) rfl rfl rfl rfl ?_
      refine c_mreads (p := (tkp t n 102 (tkp t n 103 p))) (t := t) (n := n) (s := s) gT (tkp_le (tkp_le hp (by decide)) (by decide)) hn (fun y y0 yT yN => ?_)
      show mM G mX11_readsItem 39 [some (.ref 214), none] [.int (rdr t n 0 7 (tkp t n 102 (tkp t n 103 p)))] S1 y (0, 0) Q
      refine m_if_ne (tgt := 44) (pc' := 42) dX11_readsItem_39 (by decide) rfl (fun h39 => ?_) (fun h39 => ?_)
      · skip
        refine m_aload_n (pc' := 45) dX11_readsItem_44 rfl rfl ?_
        refine m_getI (pc' := 48) fa_X11_readsItem_157 dX11_readsItem_45 (by decide) rfl rfl rfl ?_
        rw [show (y.1 214 16) = (nI (nn (rdv t n (tkp t n 102 (tkp t n 103 p))))) from yN.trans (rdv_nI (b := 7) (by decide) (rdr_y h39)).1]
        refine m_istore_n (pc' := 49) dX11_readsItem_48 (by decide) rfl rfl ?_
        refine m_aload_n (pc' := 50) dX11_readsItem_49 rfl rfl ?_
        refine m_bipush (pc' := 52) (v := 61) dX11_readsItem_50 (by decide) rfl ?_
        refine m_callV (pc' := 55) (A := [.int 61]) (rest := []) (b := 214) cl_X11_readsItem_164 dX11_readsItem_52 rfl rfl (Nat.le_of_ble_eq_true rfl) ⟨by decide, by decide⟩ (by decide) rfl rfl rfl rfl ?_
        refine c_mtakes (p := (rdp t n 0 7 (tkp t n 102 (tkp t n 103 p)))) (t := t) (n := n) (s := s) yT (rdp_le (tkp_le (tkp_le hp (by decide)) (by decide))) hn (fun x x0 xT => ?_)
        show mM G mX11_readsItem 55 [some (.ref 214), some (.int (nI (nn (rdv t n (tkp t n 102 (tkp t n 103 p))))))] [.int (tkv t n 61 (rdp t n 0 7 (tkp t n 102 (tkp t n 103 p))))] S1 x (0, 0) Q
        refine m_if_eq (tgt := 64) (pc' := 58) dX11_readsItem_55 (by decide) rfl (fun h55 => ?_) (fun h55 => ?_)
        · skip
          refine m_aload_n (pc' := 65) dX11_readsItem_64 rfl rfl ?_
          refine m_bipush (pc' := 67) (v := 114) dX11_readsItem_65 (by decide) rfl ?_
          refine m_callV (pc' := 70) (A := [.int 114]) (rest := []) (b := 214) cl_X11_readsItem_164 dX11_readsItem_67 rfl rfl (Nat.le_of_ble_eq_true rfl) ⟨by decide, by decide⟩ (by decide) rfl rfl rfl rfl ?_
          refine c_mtakes (p := (tkp t n 61 (rdp t n 0 7 (tkp t n 102 (tkp t n 103 p))))) (t := t) (n := n) (s := s) xT (tkp_le (rdp_le (tkp_le (tkp_le hp (by decide)) (by decide))) (by decide)) hn (fun v v0 vT => ?_)
          show mM G mX11_readsItem 70 [some (.ref 214), some (.int (nI (nn (rdv t n (tkp t n 102 (tkp t n 103 p))))))] [.int (tkv t n 114 (tkp t n 61 (rdp t n 0 7 (tkp t n 102 (tkp t n 103 p)))))] S1 v (0, 0) Q
          refine m_if_eq (tgt := 81) (pc' := 73) dX11_readsItem_70 (by decide) rfl (fun h70 => ?_) (fun h70 => ?_)
          · skip
            refine m_aload_n (pc' := 82) dX11_readsItem_81 rfl rfl ?_
            refine m_iload_n (pc' := 83) dX11_readsItem_82 rfl rfl ?_
            refine m_callV (pc' := 86) (A := [.int (nI (nn (rdv t n (tkp t n 102 (tkp t n 103 p)))))]) (rest := []) (b := 214) cl_X11_readsItem_173 dX11_readsItem_83 rfl rfl (Nat.le_of_ble_eq_true rfl) ⟨by decide, by decide⟩ (by decide) rfl rfl rfl rfl ?_
            refine c_rdEntry (p := (tkp t n 114 (tkp t n 61 (rdp t n 0 7 (tkp t n 102 (tkp t n 103 p)))))) (t := t) (n := n) (s := s) vT (tkp_le (tkp_le (rdp_le (tkp_le (tkp_le hp (by decide)) (by decide))) (by decide)) (by decide)) hn hm (fun z z0 zT => ?_)
            show mM G mX11_readsItem 86 [some (.ref 214), some (.int (nI (nn (rdv t n (tkp t n 102 (tkp t n 103 p))))))] [.int ((pEntry t n (nI (nn (rdv t n (tkp t n 102 (tkp t n 103 p))))) (tkp t n 114 (tkp t n 61 (rdp t n 0 7 (tkp t n 102 (tkp t n 103 p))))) s).1)] S1 z (0, 0) Q
            refine m_iret dX11_readsItem_86 rfl (by first | exact nar_01 (pG_01 (pRes_G (tkp_le (tkp_le (rdp_le (tkp_le (tkp_le hp (by decide)) (by decide))) (by decide)) (by decide)) (show (nn (rdv t n (tkp t n 102 (tkp t n 103 p)))) < 8 from by have := (rdv_nI (b := 7) (by decide) (rdr_y h39)).2; omega) hm)) | exact nar_01 (pG_01 (pEntry_G (tkp_le (tkp_le (rdp_le (tkp_le (tkp_le hp (by decide)) (by decide))) (by decide)) (by decide)) hm))) ⟨by decide, by decide⟩ ?_
            have e1 : pItem t n p s = pItem1 t n (tkp t n 103 p) s := if_neg (tkv_n h6)
            have e2 := e1.trans (show pItem1 t n (tkp t n 103 p) s = pNum t n (tkp t n 102 (tkp t n 103 p)) s from if_neg (tkv_n h22))
            have e3 := e2.trans (show pNum t n (tkp t n 102 (tkp t n 103 p)) s = pItem2 t n (nn (rdv t n (tkp t n 102 (tkp t n 103 p)))) (rdp t n 0 7 (tkp t n 102 (tkp t n 103 p))) s from if_pos (rdr_y h39))
            have e4 := e3.trans (show pItem2 t n (nn (rdv t n (tkp t n 102 (tkp t n 103 p)))) (rdp t n 0 7 (tkp t n 102 (tkp t n 103 p))) s = pItem3 t n (nn (rdv t n (tkp t n 102 (tkp t n 103 p)))) (tkp t n 61 (rdp t n 0 7 (tkp t n 102 (tkp t n 103 p)))) s from if_neg (tkv_n h55))
            rw [e4.trans (show pItem3 t n (nn (rdv t n (tkp t n 102 (tkp t n 103 p)))) (tkp t n 61 (rdp t n 0 7 (tkp t n 102 (tkp t n 103 p)))) s = pEntry t n (nI (nn (rdv t n (tkp t n 102 (tkp t n 103 p))))) (tkp t n 114 (tkp t n 61 (rdp t n 0 7 (tkp t n 102 (tkp t n 103 p))))) s from if_neg (tkv_n h70))] at hQ
            exact hQ z (((((f0.trans g0).trans y0).trans x0).trans v0).trans z0) zT
          · skip
            refine m_aload_n (pc' := 74) dX11_readsItem_73 rfl rfl ?_
            refine m_iload_n (pc' := 75) dX11_readsItem_74 rfl rfl ?_
            refine m_callV (pc' := 78) (A := [.int (nI (nn (rdv t n (tkp t n 102 (tkp t n 103 p)))))]) (rest := []) (b := 214) cl_X11_readsItem_179 dX11_readsItem_75 rfl rfl (Nat.le_of_ble_eq_true rfl) ⟨by decide, by decide⟩ (by decide) rfl rfl rfl rfl ?_
            refine c_rdRes (p := (tkp t n 114 (tkp t n 61 (rdp t n 0 7 (tkp t n 102 (tkp t n 103 p)))))) (t := t) (n := n) (s := s) vT (tkp_le (tkp_le (rdp_le (tkp_le (tkp_le hp (by decide)) (by decide))) (by decide)) (by decide)) hn hm (show (nn (rdv t n (tkp t n 102 (tkp t n 103 p)))) < 8 from by have := (rdv_nI (b := 7) (by decide) (rdr_y h39)).2; omega) (fun z z0 zT => ?_)
            show mM G mX11_readsItem 78 [some (.ref 214), some (.int (nI (nn (rdv t n (tkp t n 102 (tkp t n 103 p))))))] [.int ((pRes t n (nn (rdv t n (tkp t n 102 (tkp t n 103 p)))) (tkp t n 114 (tkp t n 61 (rdp t n 0 7 (tkp t n 102 (tkp t n 103 p))))) s).1)] S1 z (0, 0) Q
            refine m_goto (tgt := 86) dX11_readsItem_78 (by decide) ?_
            refine m_iret dX11_readsItem_86 rfl (by first | exact nar_01 (pG_01 (pRes_G (tkp_le (tkp_le (rdp_le (tkp_le (tkp_le hp (by decide)) (by decide))) (by decide)) (by decide)) (show (nn (rdv t n (tkp t n 102 (tkp t n 103 p)))) < 8 from by have := (rdv_nI (b := 7) (by decide) (rdr_y h39)).2; omega) hm)) | exact nar_01 (pG_01 (pEntry_G (tkp_le (tkp_le (rdp_le (tkp_le (tkp_le hp (by decide)) (by decide))) (by decide)) (by decide)) hm))) ⟨by decide, by decide⟩ ?_
            have e1 : pItem t n p s = pItem1 t n (tkp t n 103 p) s := if_neg (tkv_n h6)
            have e2 := e1.trans (show pItem1 t n (tkp t n 103 p) s = pNum t n (tkp t n 102 (tkp t n 103 p)) s from if_neg (tkv_n h22))
            have e3 := e2.trans (show pNum t n (tkp t n 102 (tkp t n 103 p)) s = pItem2 t n (nn (rdv t n (tkp t n 102 (tkp t n 103 p)))) (rdp t n 0 7 (tkp t n 102 (tkp t n 103 p))) s from if_pos (rdr_y h39))
            have e4 := e3.trans (show pItem2 t n (nn (rdv t n (tkp t n 102 (tkp t n 103 p)))) (rdp t n 0 7 (tkp t n 102 (tkp t n 103 p))) s = pItem3 t n (nn (rdv t n (tkp t n 102 (tkp t n 103 p)))) (tkp t n 61 (rdp t n 0 7 (tkp t n 102 (tkp t n 103 p)))) s from if_neg (tkv_n h55))
            rw [e4.trans (show pItem3 t n (nn (rdv t n (tkp t n 102 (tkp t n 103 p)))) (tkp t n 61 (rdp t n 0 7 (tkp t n 102 (tkp t n 103 p)))) s = pRes t n (nn (rdv t n (tkp t n 102 (tkp t n 103 p)))) (tkp t n 114 (tkp t n 61 (rdp t n 0 7 (tkp t n 102 (tkp t n 103 p))))) s from if_pos (tkv_y h70))] at hQ
            exact hQ z (((((f0.trans g0).trans y0).trans x0).trans v0).trans z0) zT
        · skip
          refine m_aload_n (pc' := 59) dX11_readsItem_58 rfl rfl ?_
          refine m_iload_n (pc' := 60) dX11_readsItem_59 rfl rfl ?_
          refine m_callV (pc' := 63) (A := [.int (nI (nn (rdv t n (tkp t n 102 (tkp t n 103 p)))))]) (rest := []) (b := 214) cl_X11_readsItem_176 dX11_readsItem_60 rfl rfl (Nat.le_of_ble_eq_true rfl) ⟨by decide, by decide⟩ (by decide) rfl rfl rfl rfl ?_
          refine c_rdSrc (p := (tkp t n 61 (rdp t n 0 7 (tkp t n 102 (tkp t n 103 p))))) (t := t) (n := n) (s := s) xT (tkp_le (rdp_le (tkp_le (tkp_le hp (by decide)) (by decide))) (by decide)) hn hm (show (nn (rdv t n (tkp t n 102 (tkp t n 103 p)))) < 8 from by have := (rdv_nI (b := 7) (by decide) (rdr_y h39)).2; omega) (fun z z0 zT => ?_)
          show mM G mX11_readsItem 63 [some (.ref 214), some (.int (nI (nn (rdv t n (tkp t n 102 (tkp t n 103 p))))))] [.int ((pSrc t n (nn (rdv t n (tkp t n 102 (tkp t n 103 p)))) (tkp t n 61 (rdp t n 0 7 (tkp t n 102 (tkp t n 103 p)))) s).1)] S1 z (0, 0) Q
          refine m_iret dX11_readsItem_63 rfl (nar_01 (pG_01 (pSrc_G (tkp_le (rdp_le (tkp_le (tkp_le hp (by decide)) (by decide))) (by decide)) (show (nn (rdv t n (tkp t n 102 (tkp t n 103 p)))) < 8 from by have := (rdv_nI (b := 7) (by decide) (rdr_y h39)).2; omega) hm))) ⟨by decide, by decide⟩ ?_
          have e1 : pItem t n p s = pItem1 t n (tkp t n 103 p) s := if_neg (tkv_n h6)
          have e2 := e1.trans (show pItem1 t n (tkp t n 103 p) s = pNum t n (tkp t n 102 (tkp t n 103 p)) s from if_neg (tkv_n h22))
          have e3 := e2.trans (show pNum t n (tkp t n 102 (tkp t n 103 p)) s = pItem2 t n (nn (rdv t n (tkp t n 102 (tkp t n 103 p)))) (rdp t n 0 7 (tkp t n 102 (tkp t n 103 p))) s from if_pos (rdr_y h39))
          rw [e3.trans (show pItem2 t n (nn (rdv t n (tkp t n 102 (tkp t n 103 p)))) (rdp t n 0 7 (tkp t n 102 (tkp t n 103 p))) s = pSrc t n (nn (rdv t n (tkp t n 102 (tkp t n 103 p)))) (tkp t n 61 (rdp t n 0 7 (tkp t n 102 (tkp t n 103 p)))) s from if_pos (tkv_y h55))] at hQ
          exact hQ z ((((f0.trans g0).trans y0).trans x0).trans z0) zT
      · skip
        refine m_iconst (pc' := 43) (v := 0) dX11_readsItem_42 (by decide) rfl ?_
        refine m_iret dX11_readsItem_43 rfl (by decide) ⟨by decide, by decide⟩ ?_
        have e1 : pItem t n p s = pItem1 t n (tkp t n 103 p) s := if_neg (tkv_n h6)
        have e2 := e1.trans (show pItem1 t n (tkp t n 103 p) s = pNum t n (tkp t n 102 (tkp t n 103 p)) s from if_neg (tkv_n h22))
        rw [e2.trans (show pNum t n (tkp t n 102 (tkp t n 103 p)) s = (0, (rdp t n 0 7 (tkp t n 102 (tkp t n 103 p))), s) from if_neg (rdr_n h39))] at hQ
        exact hQ y ((f0.trans g0).trans y0) yT
    · skip
      refine m_aload_n (pc' := 26) dX11_readsItem_25 rfl rfl ?_
      refine m_bipush (pc' := 28) (v := 9) dX11_readsItem_26 (by decide) rfl ?_
      refine m_callV (pc' := 31) (A := [.int 9]) (rest := []) (b := 214) cl_X11_readsItem_173 dX11_readsItem_28 rfl rfl (Nat.le_of_ble_eq_true rfl) ⟨by decide, by decide⟩ (by decide) rfl rfl rfl rfl ?_
      refine c_rdEntry (p := (tkp t n 102 (tkp t n 103 p))) (t := t) (n := n) (s := s) gT (tkp_le (tkp_le hp (by decide)) (by decide)) hn hm (fun z z0 zT => ?_)
      show mM G mX11_readsItem 31 [some (.ref 214), none] [.int ((pEntry t n 9 (tkp t n 102 (tkp t n 103 p)) s).1)] S1 z (0, 0) Q
      refine m_iret dX11_readsItem_31 rfl (nar_01 (pG_01 (pEntry_G (tkp_le (tkp_le hp (by decide)) (by decide)) hm))) ⟨by decide, by decide⟩ ?_
      have e1 : pItem t n p s = pItem1 t n (tkp t n 103 p) s := if_neg (tkv_n h6)
      rw [e1.trans (show pItem1 t n (tkp t n 103 p) s = pEntry t n 9 (tkp t n 102 (tkp t n 103 p)) s from if_pos (tkv_y h22))] at hQ
      exact hQ z ((f0.trans g0).trans z0) zT
  · skip
    refine m_aload_n (pc' := 10) dX11_readsItem_9 rfl rfl ?_
    refine m_bipush (pc' := 12) (v := 8) dX11_readsItem_10 (by decide) rfl ?_
    refine m_callV (pc' := 15) (A := [.int 8]) (rest := []) (b := 214) cl_X11_readsItem_173 dX11_readsItem_12 rfl rfl (Nat.le_of_ble_eq_true rfl) ⟨by decide, by decide⟩ (by decide) rfl rfl rfl rfl ?_
    refine c_rdEntry (p := (tkp t n 103 p)) (t := t) (n := n) (s := s) fT (tkp_le hp (by decide)) hn hm (fun z z0 zT => ?_)
    show mM G mX11_readsItem 15 [some (.ref 214), none] [.int ((pEntry t n 8 (tkp t n 103 p) s).1)] S1 z (0, 0) Q
    refine m_iret dX11_readsItem_15 rfl (nar_01 (pG_01 (pEntry_G (tkp_le hp (by decide)) hm))) ⟨by decide, by decide⟩ ?_
    rw [show pItem t n p s = pEntry t n 8 (tkp t n 103 p) s from if_pos (tkv_y h6)] at hQ
    exact hQ z (f0.trans z0) zT
end MOD13
