/-! THE CLASS'S OWN METHODS (13): its reader's items; load -/
section CLS25
variable {G : GP} {Q : Option Value → Sh → Dt → Prop} {d : Dt} {t s : SS} {n p : Nat} {f : Int32}
set_option maxHeartbeats 4000000 in
set_option maxRecDepth 100000 in
theorem c_xEnt {pl : Int32} (hR : RX t n p f s d) (hp : p ≤ n) (hn : n ≤ 140) (hx : okX t n) (hm : okm s) (hQ : ∀ d', fr rxE nE d d' → RX t n (cEnt t n pl p f s).1 (cEnt t n pl p f s).2.1 (cEnt t n pl p f s).2.2 d' → Q none S1 d') : mC G mX9_readEntry [.ref 204, .int pl] S1 d Q := by
  have K : ∀ (p1 : Nat) (f1 : Int32) (d1 : Dt) (_ : p1 ≤ n) (_ : f1 < 0 → s 43 < 16) (_ : fr rxE nE d d1) (_ : RX t n p1 f1 s d1) (_ : cEnt t n pl p f s = cEntB t n pl p1 f1 s), mM G mX9_readEntry 25 [some (.ref 204), some (.int pl), none] [] S1 d1 (0, 0) Q := by
    intro p1 f1 d1 hp1 h16 hd hR hE
    refine m_aload_n (pc' := 26) dX9_readEntry_25 rfl rfl ?_
    refine m_bipush (pc' := 28) (v := 58) dX9_readEntry_26 (by decide) rfl ?_
    refine m_callV (pc' := 31) (A := [.int 58]) (rest := []) (b := 204) cl_X9_readEntry_64 dX9_readEntry_28 rfl rfl (Nat.le_of_ble_eq_true rfl) ⟨by decide, by decide⟩ (by decide) rfl rfl rfl rfl ?_
    refine c_expect (p := p1) (t := t) (n := n) (f := f1) (s := s) hR hp1 hn hx (by decide) (by decide) (fun e e0 eR => ?_)
    show mM G mX9_readEntry 31 [some (.ref 204), some (.int pl), none] [] S1 e (0, 0) Q
    refine m_aload_n (pc' := 32) dX9_readEntry_31 rfl rfl ?_
    refine m_iconst (pc' := 33) (v := 0) dX9_readEntry_32 (by decide) rfl ?_
    refine m_bipush (pc' := 35) (v := 7) dX9_readEntry_33 (by decide) rfl ?_
    refine m_callV (pc' := 38) (A := [.int 0, .int 7]) (rest := []) (b := 204) cl_X9_readEntry_51 dX9_readEntry_35 rfl rfl (Nat.le_of_ble_eq_true rfl) ⟨by decide, by decide⟩ (by decide) rfl rfl rfl rfl ?_
    refine c_readNum (p := (tkp t n 58 p1)) (t := t) (n := n) (f := (xEf t n 58 p1 f1)) (s := s) eR (tkp_le hp1 (by decide)) hn hx (by decide) (fun g g0 gR => ?_)
    show mM G mX9_readEntry 38 [some (.ref 204), some (.int pl), none] [.int (rdc t n (tkp t n 58 p1))] S1 g (0, 0) Q
    refine m_istore_n (pc' := 39) dX9_readEntry_38 (by decide) rfl rfl ?_
    refine m_aload_n (pc' := 40) dX9_readEntry_39 rfl rfl ?_
    refine m_bipush (pc' := 42) (v := 59) dX9_readEntry_40 (by decide) rfl ?_
    refine m_callV (pc' := 45) (A := [.int 59]) (rest := []) (b := 204) cl_X9_readEntry_64 dX9_readEntry_42 rfl rfl (Nat.le_of_ble_eq_true rfl) ⟨by decide, by decide⟩ (by decide) rfl rfl rfl rfl ?_
    refine c_expect (p := (xNp t n (tkp t n 58 p1))) (t := t) (n := n) (f := (xNf t n 0 7 (tkp t n 58 p1) (xEf t n 58 p1 f1))) (s := s) gR (xNp_le (tkp_le hp1 (by decide))) hn hx (by decide) (by decide) (fun k k0 kR => ?_)
    show mM G mX9_readEntry 45 [some (.ref 204), some (.int pl), some (.int (rdc t n (tkp t n 58 p1)))] [] S1 k (0, 0) Q
    refine m_aload_n (pc' := 46) dX9_readEntry_45 rfl rfl ?_
    refine m_callV (pc' := 49) (A := []) (rest := []) (b := 204) cl_X9_readEntry_36 dX9_readEntry_46 rfl rfl (Nat.le_of_ble_eq_true rfl) ⟨by decide, by decide⟩ (by decide) rfl rfl rfl rfl ?_
    refine c_hasFailed (f := (xEf t n 59 (xNp t n (tkp t n 58 p1)) (xNf t n 0 7 (tkp t n 58 p1) (xEf t n 58 p1 f1)))) kR.2.2.2.1 ?_
    show mM G mX9_readEntry 49 [some (.ref 204), some (.int pl), some (.int (rdc t n (tkp t n 58 p1)))] [.int (fld (xEf t n 59 (xNp t n (tkp t n 58 p1)) (xNf t n 0 7 (tkp t n 58 p1) (xEf t n 58 p1 f1))))] S1 k (0, 0) Q
    refine m_if_ne (tgt := 68) (pc' := 52) dX9_readEntry_49 (by decide) rfl (fun h49 => ?_) (fun h49 => ?_)
    · skip
      refine m_vret dX9_readEntry_68 rfl ⟨by decide, by decide⟩ ?_
      refine hQ _ (((hd.trans e0).trans g0).trans k0) ?_
      rw [hE]
      show RX t n (tkp t n 59 (xNp t n (tkp t n 58 p1))) (xEf t n 59 (xNp t n (tkp t n 58 p1)) (xNf t n 0 7 (tkp t n 58 p1) (xEf t n 58 p1 f1))) (if (xEf t n 59 (xNp t n (tkp t n 58 p1)) (xNf t n 0 7 (tkp t n 58 p1) (xEf t n 58 p1 f1))) < 0 then ins s (nn (s 43)) (nn (s 43)) pl (rdc t n (tkp t n 58 p1)) else s) _
      rw [if_neg (fld_y h49)]; exact kR
    · skip
      refine m_aload_n (pc' := 53) dX9_readEntry_52 rfl rfl ?_
      refine m_getR (pc' := 56) fa_X9_readEntry_21 dX9_readEntry_53 (by decide) rfl rfl rfl rfl ?_
      refine m_iload_n (pc' := 57) dX9_readEntry_56 rfl rfl ?_
      refine m_iload_n (pc' := 58) dX9_readEntry_57 rfl rfl ?_
      refine m_aload_n (pc' := 59) dX9_readEntry_58 rfl rfl ?_
      refine m_getR (pc' := 62) fa_X9_readEntry_21 dX9_readEntry_59 (by decide) rfl rfl rfl rfl ?_
      refine m_getI (pc' := 65) fa_X9_readEntry_82 dX9_readEntry_62 (by decide) rfl rfl rfl ?_
      have hlt : nn (s 43) < 16 := by
        have h16 := h16 (xEf_neg (xNf_neg (xEf_neg (fld_n h49))))
        rw [(okm_n hm).1] at h16
        exact Nat.not_le.mp (fun z => Int32.not_lt.mpr (nI_le (a := 16) z (by have := (okm_n hm).2; omega)) h16)
      rw [show (k.1 207 3) = (nI (nn (s 43))) from kR.2.2.2.2.2.2.2.trans (okm_n hm).1]
      refine m_callV (pc' := 68) (A := [.int pl, .int (rdc t n (tkp t n 58 p1)), .int (nI (nn (s 43)))]) (rest := []) (b := 207) cl_X9_readEntry_85 dX9_readEntry_65 rfl rfl (Nat.le_of_ble_eq_true rfl) ⟨by decide, by decide⟩ (by decide) rfl rfl rfl rfl ?_
      refine c_insert (n := nn (s 43)) (b := nn (s 43)) (s := s) (by decide) kR.2.2.2.2 (okm_n hm).1 (Nat.le_refl _) hlt (fun z z0 zS => ?_)
      show mM G mX9_readEntry 68 [some (.ref 204), some (.int pl), some (.int (rdc t n (tkp t n 58 p1)))] [] S1 z (0, 0) Q
      refine m_vret dX9_readEntry_68 rfl ⟨by decide, by decide⟩ ?_
      refine hQ _ ((((hd.trans e0).trans g0).trans k0).trans (su_rx z0)) ?_
      rw [hE]
      show RX t n (tkp t n 59 (xNp t n (tkp t n 58 p1))) (xEf t n 59 (xNp t n (tkp t n 58 p1)) (xNf t n 0 7 (tkp t n 58 p1) (xEf t n 58 p1 f1))) (if (xEf t n 59 (xNp t n (tkp t n 58 p1)) (xNf t n 0 7 (tkp t n 58 p1) (xEf t n 58 p1 f1))) < 0 then ins s (nn (s 43)) (nn (s 43)) pl (rdc t n (tkp t n 58 p1)) else s) _
      rw [if_pos (fld_n h49)]; exact kR.su z0 zS
  refine mC_of (by decide +kernel) ⟨_, rfl⟩ (Nat.le_of_ble_eq_true rfl) ?_
  show mM G mX9_readEntry 0 [some (.ref 204), some (.int pl), none] [] S1 d (0, 0) Q
  refine m_aload_n (pc' := 1) dX9_readEntry_0 rfl rfl ?_
  refine m_getR (pc' := 4) fa_X9_readEntry_21 dX9_readEntry_1 (by decide) rfl rfl rfl rfl ?_
  refine m_getI (pc' := 7) fa_X9_readEntry_82 dX9_readEntry_4 (by decide) rfl rfl rfl ?_
  rw [show (d.1 207 3) = (s 43) from hR.2.2.2.2.2.2.2]
  refine m_bipush (pc' := 9) (v := 16) dX9_readEntry_7 (by decide) rfl ?_
  refine m_icmp_lt (tgt := 25) (pc' := 12) dX9_readEntry_9 (by decide) rfl (fun h9 => ?_) (fun h9 => ?_)
  · skip
    exact K p f d hp (fun _ => h9) fr.rfl hR (if_pos h9)
  · skip
    refine m_aload_n (pc' := 13) dX9_readEntry_12 rfl rfl ?_
    refine m_callV (pc' := 16) (A := []) (rest := []) (b := 204) cl_X9_readEntry_40 dX9_readEntry_13 rfl rfl (Nat.le_of_ble_eq_true rfl) ⟨by decide, by decide⟩ (by decide) rfl rfl rfl rfl ?_
    refine c_next (p := p) (P := skp t n p) (t := t) (n := n) (f := f) (s := s) hR hp hn hx rfl (fun e e0 eR => ?_)
    show mM G mX9_readEntry 16 [some (.ref 204), some (.int pl), none] [.int (chr t n (skp t n p))] S1 e (0, 0) Q
    refine m_pop (pc' := 17) dX9_readEntry_16 rfl ?_
    refine m_aload_n (pc' := 18) dX9_readEntry_17 rfl rfl ?_
    refine m_aload_n (pc' := 19) dX9_readEntry_18 rfl rfl ?_
    refine m_getI (pc' := 22) fa_X9_readEntry_29 dX9_readEntry_19 (by decide) rfl rfl rfl ?_
    rw [show (e.1 204 2) = (nI (skp t n p)) from eR.2.2.1]
    refine m_callV (pc' := 25) (A := [.int (nI (skp t n p))]) (rest := []) (b := 204) cl_X9_readEntry_61 dX9_readEntry_22 rfl rfl (Nat.le_of_ble_eq_true rfl) ⟨by decide, by decide⟩ (by decide) rfl rfl rfl rfl ?_
    refine c_failAt (t := t) (n := n) (p := (skp t n p)) (f := f) (s := s) eR (fun g g0 gR => ?_)
    show mM G mX9_readEntry 25 [some (.ref 204), some (.int pl), none] [] S1 g (0, 0) Q
    exact K (skp t n p) (ffa f (nI (skp t n p))) g (skp_le' hp).1 (fun z => absurd z (ffa_nn (by have := (skp_le' (t := t) hp).1; omega))) (e0.trans g0) gR (if_neg h9)
set_option maxHeartbeats 4000000 in
set_option maxRecDepth 100000 in
theorem c_xRes {c : Nat} (hR : RX t n p f s d) (hp : p ≤ n) (hn : n ≤ 140) (hx : okX t n) (hc : f < 0 → c < 8) (hQ : ∀ d', fr rxE nE d d' → RX t n (cRes t n c p f s).1 (cRes t n c p f s).2.1 (cRes t n c p f s).2.2 d' → Q none S1 d') : mC G mX9_readResistance [.ref 204, .int (nI c)] S1 d Q := by
  refine mC_of (by decide +kernel) ⟨_, rfl⟩ (Nat.le_of_ble_eq_true rfl) ?_
  show mM G mX9_readResistance 0 [some (.ref 204), some (.int (nI c)), none] [] S1 d (0, 0) Q
  refine m_aload_n (pc' := 1) dX9_readResistance_0 rfl rfl ?_
  refine m_iconst (pc' := 2) (v := 0) dX9_readResistance_1 (by decide) rfl ?_
  refine m_bipush (pc' := 4) (v := 31) dX9_readResistance_2 (by decide) rfl ?_
  refine m_callV (pc' := 7) (A := [.int 0, .int 31]) (rest := []) (b := 204) cl_X9_readResistance_51 dX9_readResistance_4 rfl rfl (Nat.le_of_ble_eq_true rfl) ⟨by decide, by decide⟩ (by decide) rfl rfl rfl rfl ?_
  refine c_readNum (p := p) (t := t) (n := n) (f := f) (s := s) hR hp hn hx (by decide) (fun e e0 eR => ?_)
  show mM G mX9_readResistance 7 [some (.ref 204), some (.int (nI c)), none] [.int (rdc t n p)] S1 e (0, 0) Q
  refine m_istore_n (pc' := 8) dX9_readResistance_7 (by decide) rfl rfl ?_
  refine m_aload_n (pc' := 9) dX9_readResistance_8 rfl rfl ?_
  refine m_bipush (pc' := 11) (v := 59) dX9_readResistance_9 (by decide) rfl ?_
  refine m_callV (pc' := 14) (A := [.int 59]) (rest := []) (b := 204) cl_X9_readResistance_64 dX9_readResistance_11 rfl rfl (Nat.le_of_ble_eq_true rfl) ⟨by decide, by decide⟩ (by decide) rfl rfl rfl rfl ?_
  refine c_expect (p := (xNp t n p)) (t := t) (n := n) (f := (xNf t n 0 31 p f)) (s := s) eR (xNp_le hp) hn hx (by decide) (by decide) (fun k k0 kR => ?_)
  show mM G mX9_readResistance 14 [some (.ref 204), some (.int (nI c)), some (.int (rdc t n p))] [] S1 k (0, 0) Q
  refine m_aload_n (pc' := 15) dX9_readResistance_14 rfl rfl ?_
  refine m_callV (pc' := 18) (A := []) (rest := []) (b := 204) cl_X9_readResistance_36 dX9_readResistance_15 rfl rfl (Nat.le_of_ble_eq_true rfl) ⟨by decide, by decide⟩ (by decide) rfl rfl rfl rfl ?_
  refine c_hasFailed (f := (xEf t n 59 (xNp t n p) (xNf t n 0 31 p f))) kR.2.2.2.1 ?_
  show mM G mX9_readResistance 18 [some (.ref 204), some (.int (nI c)), some (.int (rdc t n p))] [.int (fld (xEf t n 59 (xNp t n p) (xNf t n 0 31 p f)))] S1 k (0, 0) Q
  refine m_if_ne (tgt := 34) (pc' := 21) dX9_readResistance_18 (by decide) rfl (fun h18 => ?_) (fun h18 => ?_)
  · skip
    refine m_vret dX9_readResistance_34 rfl ⟨by decide, by decide⟩ ?_
    refine hQ _ (e0.trans k0) ?_
    show RX t n (tkp t n 59 (xNp t n p)) (xEf t n 59 (xNp t n p) (xNf t n 0 31 p f)) (if (xEf t n 59 (xNp t n p) (xNf t n 0 31 p f)) < 0 then sU s (5 * c + 4) (rdc t n p) else s) _
    rw [if_neg (fld_y h18)]; exact kR
  · skip
    refine m_aload_n (pc' := 22) dX9_readResistance_21 rfl rfl ?_
    refine m_getR (pc' := 25) fa_X9_readResistance_21 dX9_readResistance_22 (by decide) rfl rfl rfl rfl ?_
    refine m_getR (pc' := 28) fa_X9_readResistance_72 dX9_readResistance_25 (by decide) rfl rfl rfl rfl ?_
    refine m_iload_n (pc' := 29) dX9_readResistance_28 rfl rfl ?_
    refine m_iconst (pc' := 30) (v := 4) dX9_readResistance_29 (by decide) rfl ?_
    refine m_iload_n (pc' := 31) dX9_readResistance_30 rfl rfl ?_
    refine m_callV (pc' := 34) (A := [.int (nI c), .int 4, .int (rdc t n p)]) (rest := []) (b := 208) cl_X9_readResistance_76 dX9_readResistance_31 rfl rfl (Nat.le_of_ble_eq_true rfl) ⟨by decide, by decide⟩ (by decide) rfl rfl rfl rfl ?_
    refine c_putN (t := 208) (W := 5) (L := 40) (a := c) (b := 4) (k := 5 * c + 4) (isT_lit (by decide +kernel)) (by decide) (by omega) (by have := hc (xNf_neg (xEf_neg (fld_n h18))); omega) ?_
    show mM G mX9_readResistance 34 [some (.ref 204), some (.int (nI c)), some (.int (rdc t n p))] [] S1 (u2 k.1 209 (5 * c + 4) (rdc t n p), k.2) (0, 0) Q
    refine m_vret dX9_readResistance_34 rfl ⟨by decide, by decide⟩ ?_
    have z0 : fr (suE 207) nE k (u2 k.1 209 (5 * c + 4) (rdc t n p), k.2) := fr.i fr.rfl _ (Or.inl rfl)
    refine hQ _ ((e0.trans k0).trans (su_rx z0)) ?_
    show RX t n (tkp t n 59 (xNp t n p)) (xEf t n 59 (xNp t n p) (xNf t n 0 31 p f)) (if (xEf t n 59 (xNp t n p) (xNf t n 0 31 p f)) < 0 then sU s (5 * c + 4) (rdc t n p) else s) _
    rw [if_pos (fld_n h18)]; exact kR.su z0 (kR.2.2.2.2.ch (by have := hc (xNf_neg (xEf_neg (fld_n h18))); omega) rfl)
set_option maxHeartbeats 4000000 in
set_option maxRecDepth 100000 in
theorem c_xSrc {c : Nat} (hR : RX t n p f s d) (hp : p ≤ n) (hn : n ≤ 140) (hx : okX t n) (hc : f < 0 → c < 8) (hQ : ∀ d', fr rxE nE d d' → RX t n (cSrc t n c p f s).1 (cSrc t n c p f s).2.1 (cSrc t n c p f s).2.2 d' → Q none S1 d') : mC G mX9_readSource [.ref 204, .int (nI c)] S1 d Q := by
  have K : ∀ (kd x y : Int32) (p1 : Nat) (f1 : Int32) (d1 : Dt) (_ : p1 ≤ n) (_ : f1 < 0 → f < 0) (_ : fr rxE nE d d1) (_ : RX t n p1 f1 s d1) (_ : cSrc t n c p f s = cTail t n c kd (rdc t n p) x y p1 f1 s), mM G mX9_readSource 123 [some (.ref 204), some (.int (nI c)), some (.int kd), some (.int (rdc t n p)), some (.int x), some (.int y), none, none] [] S1 d1 (0, 0) Q := by
    intro kd x y p1 f1 d1 hp1 hfl hd hR hE
    refine m_aload_n (pc' := 124) dX9_readSource_123 rfl rfl ?_
    refine m_bipush (pc' := 126) (v := 59) dX9_readSource_124 (by decide) rfl ?_
    refine m_callV (pc' := 129) (A := [.int 59]) (rest := []) (b := 204) cl_X9_readSource_64 dX9_readSource_126 rfl rfl (Nat.le_of_ble_eq_true rfl) ⟨by decide, by decide⟩ (by decide) rfl rfl rfl rfl ?_
    refine c_expect (p := p1) (t := t) (n := n) (f := f1) (s := s) hR hp1 hn hx (by decide) (by decide) (fun k k0 kR => ?_)
    show mM G mX9_readSource 129 [some (.ref 204), some (.int (nI c)), some (.int kd), some (.int (rdc t n p)), some (.int x), some (.int y), none, none] [] S1 k (0, 0) Q
    refine m_aload_n (pc' := 130) dX9_readSource_129 rfl rfl ?_
    refine m_callV (pc' := 133) (A := []) (rest := []) (b := 204) cl_X9_readSource_36 dX9_readSource_130 rfl rfl (Nat.le_of_ble_eq_true rfl) ⟨by decide, by decide⟩ (by decide) rfl rfl rfl rfl ?_
    refine c_hasFailed (f := (xEf t n 59 p1 f1)) kR.2.2.2.1 ?_
    show mM G mX9_readSource 133 [some (.ref 204), some (.int (nI c)), some (.int kd), some (.int (rdc t n p)), some (.int x), some (.int y), none, none] [.int (fld (xEf t n 59 p1 f1))] S1 k (0, 0) Q
    refine m_if_ne (tgt := 150) (pc' := 136) dX9_readSource_133 (by decide) rfl (fun h133 => ?_) (fun h133 => ?_)
    · skip
      refine m_vret dX9_readSource_150 rfl ⟨by decide, by decide⟩ ?_
      refine hQ _ (hd.trans k0) ?_
      rw [hE]
      show RX t n (tkp t n 59 p1) (xEf t n 59 p1 f1) (if (xEf t n 59 p1 f1) < 0 then pso s c kd (rdc t n p) x y else s) _
      rw [if_neg (fld_y h133)]; exact kR
    · skip
      refine m_aload_n (pc' := 137) dX9_readSource_136 rfl rfl ?_
      refine m_getR (pc' := 140) fa_X9_readSource_21 dX9_readSource_137 (by decide) rfl rfl rfl rfl ?_
      refine m_iload_n (pc' := 141) dX9_readSource_140 rfl rfl ?_
      refine m_iload_n (pc' := 142) dX9_readSource_141 rfl rfl ?_
      refine m_iload_n (pc' := 143) dX9_readSource_142 rfl rfl ?_
      refine m_iload (pc' := 145) dX9_readSource_143 rfl rfl ?_
      refine m_iload (pc' := 147) dX9_readSource_145 rfl rfl ?_
      refine m_callV (pc' := 150) (A := [.int (nI c), .int kd, .int (rdc t n p), .int x, .int y]) (rest := []) (b := 207) cl_X9_readSource_68 dX9_readSource_147 rfl rfl (Nat.le_of_ble_eq_true rfl) ⟨by decide, by decide⟩ (by decide) rfl rfl rfl rfl ?_
      refine c_putSource (c := c) (s := s) (by decide) kR.2.2.2.2 (hc (hfl (xEf_neg (fld_n h133)))) (fun z z0 zS => ?_)
      show mM G mX9_readSource 150 [some (.ref 204), some (.int (nI c)), some (.int kd), some (.int (rdc t n p)), some (.int x), some (.int y), none, none] [] S1 z (0, 0) Q
      refine m_vret dX9_readSource_150 rfl ⟨by decide, by decide⟩ ?_
      refine hQ _ ((hd.trans k0).trans (su_rx z0)) ?_
      rw [hE]
      show RX t n (tkp t n 59 p1) (xEf t n 59 p1 f1) (if (xEf t n 59 p1 f1) < 0 then pso s c kd (rdc t n p) x y else s) _
      rw [if_pos (fld_n h133)]; exact kR.su z0 zS
  refine mC_of (by decide +kernel) ⟨_, rfl⟩ (Nat.le_of_ble_eq_true rfl) ?_
  show mM G mX9_readSource 0 [some (.ref 204), some (.int (nI c)), none, none, none, none, none, none] [] S1 d (0, 0) Q
  refine m_iconst (pc' := 1) (v := 0) dX9_readSource_0 (by decide) rfl ?_
  refine m_istore_n (pc' := 2) dX9_readSource_1 (by decide) rfl rfl ?_
  refine m_aload_n (pc' := 3) dX9_readSource_2 rfl rfl ?_
  refine m_iconst (pc' := 4) (v := 0) dX9_readSource_3 (by decide) rfl ?_
  refine m_sipush (pc' := 7) (v := 4095) dX9_readSource_4 (by decide) rfl ?_
  refine m_callV (pc' := 10) (A := [.int 0, .int 4095]) (rest := []) (b := 204) cl_X9_readSource_51 dX9_readSource_7 rfl rfl (Nat.le_of_ble_eq_true rfl) ⟨by decide, by decide⟩ (by decide) rfl rfl rfl rfl ?_
  refine c_readNum (p := p) (t := t) (n := n) (f := f) (s := s) hR hp hn hx (by decide) (fun e e0 eR => ?_)
  show mM G mX9_readSource 10 [some (.ref 204), some (.int (nI c)), some (.int 0), none, none, none, none, none] [.int (rdc t n p)] S1 e (0, 0) Q
  refine m_istore_n (pc' := 11) dX9_readSource_10 (by decide) rfl rfl ?_
  refine m_iconst (pc' := 12) (v := 0) dX9_readSource_11 (by decide) rfl ?_
  refine m_istore (pc' := 14) dX9_readSource_12 (by decide) rfl rfl ?_
  refine m_iconst (pc' := 15) (v := 0) dX9_readSource_14 (by decide) rfl ?_
  refine m_istore (pc' := 17) dX9_readSource_15 (by decide) rfl rfl ?_
  refine m_aload_n (pc' := 18) dX9_readSource_17 rfl rfl ?_
  refine m_callV (pc' := 21) (A := []) (rest := []) (b := 204) cl_X9_readSource_40 dX9_readSource_18 rfl rfl (Nat.le_of_ble_eq_true rfl) ⟨by decide, by decide⟩ (by decide) rfl rfl rfl rfl ?_
  refine c_next (p := (xNp t n p)) (P := skp t n (xNp t n p)) (t := t) (n := n) (f := (xNf t n 0 4095 p f)) (s := s) eR (xNp_le hp) hn hx rfl (fun g g0 gR => ?_)
  show mM G mX9_readSource 21 [some (.ref 204), some (.int (nI c)), some (.int 0), some (.int (rdc t n p)), some (.int 0), some (.int 0), none, none] [.int (chr t n (skp t n (xNp t n p)))] S1 g (0, 0) Q
  refine m_istore (pc' := 23) dX9_readSource_21 (by decide) rfl rfl ?_
  refine m_iload (pc' := 25) dX9_readSource_23 rfl rfl ?_
  refine m_bipush (pc' := 27) (v := 43) dX9_readSource_25 (by decide) rfl ?_
  refine m_icmp_eq (tgt := 37) (pc' := 30) dX9_readSource_27 (by decide) rfl (fun h27 => ?_) (fun h27 => ?_)
  · skip
    refine m_aload_n (pc' := 38) dX9_readSource_37 rfl rfl ?_
    refine m_dup (pc' := 39) dX9_readSource_38 rfl ?_
    refine m_getI (pc' := 42) fa_X9_readSource_29 dX9_readSource_39 (by decide) rfl rfl rfl ?_
    rw [show (g.1 204 2) = (nI (skp t n (xNp t n p))) from gR.2.2.1]
    refine m_iconst (pc' := 43) (v := 1) dX9_readSource_42 (by decide) rfl ?_
    refine m_iadd (pc' := 44) dX9_readSource_43 rfl ?_
    rw [show ((nI (skp t n (xNp t n p))) + 1) = (nI ((skp t n (xNp t n p)) + 1)) from nI_1 _]
    refine m_putI (pc' := 47) (ty := .int) fa_X9_readSource_29 dX9_readSource_44 (by decide +kernel) rfl rfl (by decide) rfl rfl rfl ?_
    refine m_iconst (pc' := 48) (v := 1) dX9_readSource_47 (by decide) rfl ?_
    refine m_istore_n (pc' := 49) dX9_readSource_48 (by decide) rfl rfl ?_
    refine m_aload_n (pc' := 50) dX9_readSource_49 rfl rfl ?_
    refine m_iconst (pc' := 51) (v := 0) dX9_readSource_50 (by decide) rfl ?_
    refine m_bipush (pc' := 53) (v := 64) dX9_readSource_51 (by decide) rfl ?_
    refine m_callV (pc' := 56) (A := [.int 0, .int 64]) (rest := []) (b := 204) cl_X9_readSource_51 dX9_readSource_53 rfl rfl (Nat.le_of_ble_eq_true rfl) ⟨by decide, by decide⟩ (by decide) rfl rfl rfl rfl ?_
    refine c_readNum (p := ((skp t n (xNp t n p)) + 1)) (t := t) (n := n) (f := (xNf t n 0 4095 p f)) (s := s) (gR.ps (p' := (skp t n (xNp t n p)) + 1) rfl) (by first | exact chr_lt h27 (by decide) | exact chr_lt h34 (by decide) | exact chr_lt h82 (by decide)) hn hx (by decide) (fun i i0 iR => ?_)
    show mM G mX9_readSource 56 [some (.ref 204), some (.int (nI c)), some (.int 1), some (.int (rdc t n p)), some (.int 0), some (.int 0), some (.int (chr t n (skp t n (xNp t n p)))), none] [.int (rdc t n ((skp t n (xNp t n p)) + 1))] S1 i (0, 0) Q
    refine m_istore (pc' := 58) dX9_readSource_56 (by decide) rfl rfl ?_
    refine m_iload (pc' := 60) dX9_readSource_58 rfl rfl ?_
    refine m_bipush (pc' := 62) (v := 45) dX9_readSource_60 (by decide) rfl ?_
    refine m_icmp_ne (tgt := 71) (pc' := 65) dX9_readSource_62 (by decide) rfl (fun h62 => ?_) (fun h62 => absurd h62 (by rw [h27]; decide))
    refine m_iload (pc' := 73) dX9_readSource_71 rfl rfl ?_
    refine m_istore (pc' := 75) dX9_readSource_73 (by decide) rfl rfl ?_
    refine m_goto (tgt := 123) dX9_readSource_75 (by decide) ?_
    refine m_drop 6 (lo' := [some (.ref 204), some (.int (nI c)), some (.int 1), some (.int (rdc t n p)), some (.int (rdc t n ((skp t n (xNp t n p)) + 1))), some (.int 0), none, some (.int (rdc t n ((skp t n (xNp t n p)) + 1)))]) rfl ?_
    refine m_drop 7 (lo' := [some (.ref 204), some (.int (nI c)), some (.int 1), some (.int (rdc t n p)), some (.int (rdc t n ((skp t n (xNp t n p)) + 1))), some (.int 0), none, none]) rfl ?_
    exact K 1 (rdc t n ((skp t n (xNp t n p)) + 1)) 0 (xNp t n ((skp t n (xNp t n p)) + 1)) (xNf t n 0 64 ((skp t n (xNp t n p)) + 1) (xNf t n 0 4095 p f)) i (xNp_le (by first | exact chr_lt h27 (by decide) | exact chr_lt h34 (by decide) | exact chr_lt h82 (by decide))) (fun z => xNf_neg (xNf_neg z)) (((e0.trans g0).i _ (show 204 = 204 ∨ 207 ≤ 204 ∧ 204 ≤ 213 by decide)).trans i0) iR (if_pos h27)
  · skip
    refine m_iload (pc' := 32) dX9_readSource_30 rfl rfl ?_
    refine m_bipush (pc' := 34) (v := 45) dX9_readSource_32 (by decide) rfl ?_
    refine m_icmp_ne (tgt := 78) (pc' := 37) dX9_readSource_34 (by decide) rfl (fun h34 => ?_) (fun h34 => ?_)
    · skip
      refine m_iload (pc' := 80) dX9_readSource_78 rfl rfl ?_
      refine m_bipush (pc' := 82) (v := 44) dX9_readSource_80 (by decide) rfl ?_
      refine m_icmp_ne (tgt := 123) (pc' := 85) dX9_readSource_82 (by decide) rfl (fun h82 => ?_) (fun h82 => ?_)
      · skip
        refine m_drop 6 (lo' := [some (.ref 204), some (.int (nI c)), some (.int 0), some (.int (rdc t n p)), some (.int 0), some (.int 0), none, none]) rfl ?_
        exact K 0 0 0 (skp t n (xNp t n p)) (xNf t n 0 4095 p f) g (skp_le' (xNp_le hp)).1 (fun z => xNf_neg z) (e0.trans g0) gR (by unfold cSrc; rw [if_neg h27, if_neg h34, if_neg h82])
      · skip
        refine m_aload_n (pc' := 86) dX9_readSource_85 rfl rfl ?_
        refine m_dup (pc' := 87) dX9_readSource_86 rfl ?_
        refine m_getI (pc' := 90) fa_X9_readSource_29 dX9_readSource_87 (by decide) rfl rfl rfl ?_
        rw [show (g.1 204 2) = (nI (skp t n (xNp t n p))) from gR.2.2.1]
        refine m_iconst (pc' := 91) (v := 1) dX9_readSource_90 (by decide) rfl ?_
        refine m_iadd (pc' := 92) dX9_readSource_91 rfl ?_
        rw [show ((nI (skp t n (xNp t n p))) + 1) = (nI ((skp t n (xNp t n p)) + 1)) from nI_1 _]
        refine m_putI (pc' := 95) (ty := .int) fa_X9_readSource_29 dX9_readSource_92 (by decide +kernel) rfl rfl (by decide) rfl rfl rfl ?_
        refine m_iconst (pc' := 96) (v := 2) dX9_readSource_95 (by decide) rfl ?_
        refine m_istore_n (pc' := 97) dX9_readSource_96 (by decide) rfl rfl ?_
        refine m_aload_n (pc' := 98) dX9_readSource_97 rfl rfl ?_
        refine m_iconst (pc' := 99) (v := 0) dX9_readSource_98 (by decide) rfl ?_
        refine m_sipush (pc' := 102) (v := 4095) dX9_readSource_99 (by decide) rfl ?_
        refine m_callV (pc' := 105) (A := [.int 0, .int 4095]) (rest := []) (b := 204) cl_X9_readSource_51 dX9_readSource_102 rfl rfl (Nat.le_of_ble_eq_true rfl) ⟨by decide, by decide⟩ (by decide) rfl rfl rfl rfl ?_
        refine c_readNum (p := ((skp t n (xNp t n p)) + 1)) (t := t) (n := n) (f := (xNf t n 0 4095 p f)) (s := s) (gR.ps (p' := (skp t n (xNp t n p)) + 1) rfl) (by first | exact chr_lt h27 (by decide) | exact chr_lt h34 (by decide) | exact chr_lt h82 (by decide)) hn hx (by decide) (fun i i0 iR => ?_)
        show mM G mX9_readSource 105 [some (.ref 204), some (.int (nI c)), some (.int 2), some (.int (rdc t n p)), some (.int 0), some (.int 0), some (.int (chr t n (skp t n (xNp t n p)))), none] [.int (rdc t n ((skp t n (xNp t n p)) + 1))] S1 i (0, 0) Q
        refine m_istore (pc' := 107) dX9_readSource_105 (by decide) rfl rfl ?_
        refine m_aload_n (pc' := 108) dX9_readSource_107 rfl rfl ?_
        refine m_bipush (pc' := 110) (v := 47) dX9_readSource_108 (by decide) rfl ?_
        refine m_callV (pc' := 113) (A := [.int 47]) (rest := []) (b := 204) cl_X9_readSource_64 dX9_readSource_110 rfl rfl (Nat.le_of_ble_eq_true rfl) ⟨by decide, by decide⟩ (by decide) rfl rfl rfl rfl ?_
        refine c_expect (p := (xNp t n ((skp t n (xNp t n p)) + 1))) (t := t) (n := n) (f := (xNf t n 0 4095 ((skp t n (xNp t n p)) + 1) (xNf t n 0 4095 p f))) (s := s) iR (xNp_le (by first | exact chr_lt h27 (by decide) | exact chr_lt h34 (by decide) | exact chr_lt h82 (by decide))) hn hx (by decide) (by decide) (fun j j0 jR => ?_)
        show mM G mX9_readSource 113 [some (.ref 204), some (.int (nI c)), some (.int 2), some (.int (rdc t n p)), some (.int (rdc t n ((skp t n (xNp t n p)) + 1))), some (.int 0), some (.int (chr t n (skp t n (xNp t n p)))), none] [] S1 j (0, 0) Q
        refine m_aload_n (pc' := 114) dX9_readSource_113 rfl rfl ?_
        refine m_iconst (pc' := 115) (v := 2) dX9_readSource_114 (by decide) rfl ?_
        refine m_sipush (pc' := 118) (v := 200) dX9_readSource_115 (by decide) rfl ?_
        refine m_callV (pc' := 121) (A := [.int 2, .int 200]) (rest := []) (b := 204) cl_X9_readSource_51 dX9_readSource_118 rfl rfl (Nat.le_of_ble_eq_true rfl) ⟨by decide, by decide⟩ (by decide) rfl rfl rfl rfl ?_
        refine c_readNum (p := (tkp t n 47 (xNp t n ((skp t n (xNp t n p)) + 1)))) (t := t) (n := n) (f := (xEf t n 47 (xNp t n ((skp t n (xNp t n p)) + 1)) (xNf t n 0 4095 ((skp t n (xNp t n p)) + 1) (xNf t n 0 4095 p f)))) (s := s) jR (tkp_le (xNp_le (by first | exact chr_lt h27 (by decide) | exact chr_lt h34 (by decide) | exact chr_lt h82 (by decide))) (by decide)) hn hx (by decide) (fun m m0 mR => ?_)
        show mM G mX9_readSource 121 [some (.ref 204), some (.int (nI c)), some (.int 2), some (.int (rdc t n p)), some (.int (rdc t n ((skp t n (xNp t n p)) + 1))), some (.int 0), some (.int (chr t n (skp t n (xNp t n p)))), none] [.int (rdc t n (tkp t n 47 (xNp t n ((skp t n (xNp t n p)) + 1))))] S1 m (0, 0) Q
        refine m_istore (pc' := 123) dX9_readSource_121 (by decide) rfl rfl ?_
        refine m_drop 6 (lo' := [some (.ref 204), some (.int (nI c)), some (.int 2), some (.int (rdc t n p)), some (.int (rdc t n ((skp t n (xNp t n p)) + 1))), some (.int (rdc t n (tkp t n 47 (xNp t n ((skp t n (xNp t n p)) + 1))))), none, none]) rfl ?_
        exact K 2 (rdc t n ((skp t n (xNp t n p)) + 1)) (rdc t n (tkp t n 47 (xNp t n ((skp t n (xNp t n p)) + 1)))) (xNp t n (tkp t n 47 (xNp t n ((skp t n (xNp t n p)) + 1)))) (xNf t n 2 200 (tkp t n 47 (xNp t n ((skp t n (xNp t n p)) + 1))) (xEf t n 47 (xNp t n ((skp t n (xNp t n p)) + 1)) (xNf t n 0 4095 ((skp t n (xNp t n p)) + 1) (xNf t n 0 4095 p f)))) m (xNp_le (tkp_le (xNp_le (by first | exact chr_lt h27 (by decide) | exact chr_lt h34 (by decide) | exact chr_lt h82 (by decide))) (by decide))) (fun z => xNf_neg (xNf_neg (xEf_neg (xNf_neg z)))) (((((e0.trans g0).i _ (show 204 = 204 ∨ 207 ≤ 204 ∧ 204 ≤ 213 by decide)).trans i0).trans j0).trans m0) mR (by unfold cSrc; rw [if_neg h27, if_neg h34, if_pos h82])
    · skip
      refine m_aload_n (pc' := 38) dX9_readSource_37 rfl rfl ?_
      refine m_dup (pc' := 39) dX9_readSource_38 rfl ?_
      refine m_getI (pc' := 42) fa_X9_readSource_29 dX9_readSource_39 (by decide) rfl rfl rfl ?_
      rw [show (g.1 204 2) = (nI (skp t n (xNp t n p))) from gR.2.2.1]
      refine m_iconst (pc' := 43) (v := 1) dX9_readSource_42 (by decide) rfl ?_
      refine m_iadd (pc' := 44) dX9_readSource_43 rfl ?_
      rw [show ((nI (skp t n (xNp t n p))) + 1) = (nI ((skp t n (xNp t n p)) + 1)) from nI_1 _]
      refine m_putI (pc' := 47) (ty := .int) fa_X9_readSource_29 dX9_readSource_44 (by decide +kernel) rfl rfl (by decide) rfl rfl rfl ?_
      refine m_iconst (pc' := 48) (v := 1) dX9_readSource_47 (by decide) rfl ?_
      refine m_istore_n (pc' := 49) dX9_readSource_48 (by decide) rfl rfl ?_
      refine m_aload_n (pc' := 50) dX9_readSource_49 rfl rfl ?_
      refine m_iconst (pc' := 51) (v := 0) dX9_readSource_50 (by decide) rfl ?_
      refine m_bipush (pc' := 53) (v := 64) dX9_readSource_51 (by decide) rfl ?_
      refine m_callV (pc' := 56) (A := [.int 0, .int 64]) (rest := []) (b := 204) cl_X9_readSource_51 dX9_readSource_53 rfl rfl (Nat.le_of_ble_eq_true rfl) ⟨by decide, by decide⟩ (by decide) rfl rfl rfl rfl ?_
      refine c_readNum (p := ((skp t n (xNp t n p)) + 1)) (t := t) (n := n) (f := (xNf t n 0 4095 p f)) (s := s) (gR.ps (p' := (skp t n (xNp t n p)) + 1) rfl) (by first | exact chr_lt h27 (by decide) | exact chr_lt h34 (by decide) | exact chr_lt h82 (by decide)) hn hx (by decide) (fun i i0 iR => ?_)
      show mM G mX9_readSource 56 [some (.ref 204), some (.int (nI c)), some (.int 1), some (.int (rdc t n p)), some (.int 0), some (.int 0), some (.int (chr t n (skp t n (xNp t n p)))), none] [.int (rdc t n ((skp t n (xNp t n p)) + 1))] S1 i (0, 0) Q
      refine m_istore (pc' := 58) dX9_readSource_56 (by decide) rfl rfl ?_
      refine m_iload (pc' := 60) dX9_readSource_58 rfl rfl ?_
      refine m_bipush (pc' := 62) (v := 45) dX9_readSource_60 (by decide) rfl ?_
      refine m_icmp_ne (tgt := 71) (pc' := 65) dX9_readSource_62 (by decide) rfl (fun h62 => absurd h62 (fun z => z h34)) (fun h62 => ?_)
      refine m_iload (pc' := 67) dX9_readSource_65 rfl rfl ?_
      refine m_ineg (pc' := 68) dX9_readSource_67 rfl ?_
      refine m_goto (tgt := 73) dX9_readSource_68 (by decide) ?_
      refine m_istore (pc' := 75) dX9_readSource_73 (by decide) rfl rfl ?_
      refine m_goto (tgt := 123) dX9_readSource_75 (by decide) ?_
      refine m_drop 6 (lo' := [some (.ref 204), some (.int (nI c)), some (.int 1), some (.int (rdc t n p)), some (.int (-(rdc t n ((skp t n (xNp t n p)) + 1)))), some (.int 0), none, some (.int (rdc t n ((skp t n (xNp t n p)) + 1)))]) rfl ?_
      refine m_drop 7 (lo' := [some (.ref 204), some (.int (nI c)), some (.int 1), some (.int (rdc t n p)), some (.int (-(rdc t n ((skp t n (xNp t n p)) + 1)))), some (.int 0), none, none]) rfl ?_
      exact K 1 (-(rdc t n ((skp t n (xNp t n p)) + 1))) 0 (xNp t n ((skp t n (xNp t n p)) + 1)) (xNf t n 0 64 ((skp t n (xNp t n p)) + 1) (xNf t n 0 4095 p f)) i (xNp_le (by first | exact chr_lt h27 (by decide) | exact chr_lt h34 (by decide) | exact chr_lt h82 (by decide))) (fun z => xNf_neg (xNf_neg z)) (((e0.trans g0).i _ (show 204 = 204 ∨ 207 ≤ 204 ∧ 204 ≤ 213 by decide)).trans i0) iR (by unfold cSrc; rw [if_neg h27, if_pos h34])
set_option maxHeartbeats 4000000 in
set_option maxRecDepth 100000 in
theorem c_xItem  (hR : RX t n p f s d) (hp : p ≤ n) (hn : n ≤ 140) (hx : okX t n) (hm : okm s) (hQ : ∀ d', fr rxE nE d d' → RX t n (cItem t n p f s).1 (cItem t n p f s).2.1 (cItem t n p f s).2.2 d' → Q none S1 d') : mC G mX9_readItem [.ref 204] S1 d Q := by
  have hq := skp_le' (t := t) hp
  have hq3 := skp_le' (t := t) (xNp_le (t := t) hq.1)
  have hc8 : (xNf t n 0 7 (skp t n p) f) < 0 → (nn (rdc t n (skp t n p))) < 8 := fun z => by
    have k := xNf_ok hq.1 hn z
    rw [rdc_k (p := skp t n p) (by decide) k]
    have := (rdv_nI (b := 7) (by decide) k).2
    omega
  refine mC_of (by decide +kernel) ⟨_, rfl⟩ (Nat.le_of_ble_eq_true rfl) ?_
  show mM G mX9_readItem 0 [some (.ref 204), none, none] [] S1 d (0, 0) Q
  refine m_aload_n (pc' := 1) dX9_readItem_0 rfl rfl ?_
  refine m_callV (pc' := 4) (A := []) (rest := []) (b := 204) cl_X9_readItem_40 dX9_readItem_1 rfl rfl (Nat.le_of_ble_eq_true rfl) ⟨by decide, by decide⟩ (by decide) rfl rfl rfl rfl ?_
  refine c_next (p := p) (P := skp t n p) (t := t) (n := n) (f := f) (s := s) hR hp hn hx rfl (fun e e0 eR => ?_)
  show mM G mX9_readItem 4 [some (.ref 204), none, none] [.int (chr t n (skp t n p))] S1 e (0, 0) Q
  refine m_istore_n (pc' := 5) dX9_readItem_4 (by decide) rfl rfl ?_
  refine m_iload_n (pc' := 6) dX9_readItem_5 rfl rfl ?_
  refine m_bipush (pc' := 8) (v := 103) dX9_readItem_6 (by decide) rfl ?_
  refine m_icmp_eq (tgt := 17) (pc' := 11) dX9_readItem_8 (by decide) rfl (fun h8 => ?_) (fun h8 => ?_)
  · skip
    refine m_aload_n (pc' := 18) dX9_readItem_17 rfl rfl ?_
    refine m_dup (pc' := 19) dX9_readItem_18 rfl ?_
    refine m_getI (pc' := 22) fa_X9_readItem_29 dX9_readItem_19 (by decide) rfl rfl rfl ?_
    rw [show (e.1 204 2) = (nI (skp t n p)) from eR.2.2.1]
    refine m_iconst (pc' := 23) (v := 1) dX9_readItem_22 (by decide) rfl ?_
    refine m_iadd (pc' := 24) dX9_readItem_23 rfl ?_
    rw [show ((nI (skp t n p)) + 1) = (nI ((skp t n p) + 1)) from nI_1 _]
    refine m_putI (pc' := 27) (ty := .int) fa_X9_readItem_29 dX9_readItem_24 (by decide +kernel) rfl rfl (by decide) rfl rfl rfl ?_
    refine m_aload_n (pc' := 28) dX9_readItem_27 rfl rfl ?_
    refine m_iload_n (pc' := 29) dX9_readItem_28 rfl rfl ?_
    refine m_bipush (pc' := 31) (v := 103) dX9_readItem_29 (by decide) rfl ?_
    refine m_icmp_ne (tgt := 39) (pc' := 34) dX9_readItem_31 (by decide) rfl (fun h31 => absurd h31 (fun z => z h8)) (fun h31 => ?_)
    refine m_bipush (pc' := 36) (v := 8) dX9_readItem_34 (by decide) rfl ?_
    refine m_goto (tgt := 41) dX9_readItem_36 (by decide) ?_
    refine m_callV (pc' := 44) (A := [.int 8]) (rest := []) (b := 204) cl_X9_readItem_47 dX9_readItem_41 rfl rfl (Nat.le_of_ble_eq_true rfl) ⟨by decide, by decide⟩ (by decide) rfl rfl rfl rfl ?_
    refine c_xEnt (pl := 8) (p := ((skp t n p) + 1)) (t := t) (n := n) (f := f) (s := s) (eR.ps (p' := (skp t n p) + 1) rfl) (by first | exact chr_lt h8 (by decide) | exact chr_lt h14 (by decide)) hn hx hm (fun k k0 kR => ?_)
    show mM G mX9_readItem 44 [some (.ref 204), some (.int (chr t n (skp t n p))), none] [] S1 k (0, 0) Q
    refine m_vret dX9_readItem_44 rfl ⟨by decide, by decide⟩ ?_
    exact hQ _ ((e0.i _ (show 204 = 204 ∨ 207 ≤ 204 ∧ 204 ≤ 213 by decide)).trans k0) (by unfold cItem; rw [if_pos h8]; exact kR)
  · skip
    refine m_iload_n (pc' := 12) dX9_readItem_11 rfl rfl ?_
    refine m_bipush (pc' := 14) (v := 102) dX9_readItem_12 (by decide) rfl ?_
    refine m_icmp_ne (tgt := 45) (pc' := 17) dX9_readItem_14 (by decide) rfl (fun h14 => ?_) (fun h14 => ?_)
    · skip
      refine m_aload_n (pc' := 46) dX9_readItem_45 rfl rfl ?_
      refine m_iconst (pc' := 47) (v := 0) dX9_readItem_46 (by decide) rfl ?_
      refine m_bipush (pc' := 49) (v := 7) dX9_readItem_47 (by decide) rfl ?_
      refine m_callV (pc' := 52) (A := [.int 0, .int 7]) (rest := []) (b := 204) cl_X9_readItem_51 dX9_readItem_49 rfl rfl (Nat.le_of_ble_eq_true rfl) ⟨by decide, by decide⟩ (by decide) rfl rfl rfl rfl ?_
      refine c_readNum (p := (skp t n p)) (t := t) (n := n) (f := f) (s := s) eR hq.1 hn hx (by decide) (fun g g0 gR => ?_)
      show mM G mX9_readItem 52 [some (.ref 204), some (.int (chr t n (skp t n p))), none] [.int (rdc t n (skp t n p))] S1 g (0, 0) Q
      rw [show (rdc t n (skp t n p)) = (nI (nn (rdc t n (skp t n p)))) from (rdc_nI hx hq.1).1]
      refine m_istore_n (pc' := 53) dX9_readItem_52 (by decide) rfl rfl ?_
      refine m_aload_n (pc' := 54) dX9_readItem_53 rfl rfl ?_
      refine m_callV (pc' := 57) (A := []) (rest := []) (b := 204) cl_X9_readItem_40 dX9_readItem_54 rfl rfl (Nat.le_of_ble_eq_true rfl) ⟨by decide, by decide⟩ (by decide) rfl rfl rfl rfl ?_
      refine c_next (p := (xNp t n (skp t n p))) (P := skp t n (xNp t n (skp t n p))) (t := t) (n := n) (f := (xNf t n 0 7 (skp t n p) f)) (s := s) gR (xNp_le hq.1) hn hx rfl (fun i i0 iR => ?_)
      show mM G mX9_readItem 57 [some (.ref 204), some (.int (chr t n (skp t n p))), some (.int (nI (nn (rdc t n (skp t n p)))))] [.int (chr t n (skp t n (xNp t n (skp t n p))))] S1 i (0, 0) Q
      by_cases g58 : chr t n (skp t n (xNp t n (skp t n p))) = 58
      · skip
        rw [g58]
        refine m_lookup (tgt := 128) (off := 71) dX9_readItem_57 (by decide) (by decide) (by decide) ?_
        refine m_aload_n (pc' := 129) dX9_readItem_128 rfl rfl ?_
        refine m_iload_n (pc' := 130) dX9_readItem_129 rfl rfl ?_
        refine m_callV (pc' := 133) (A := [.int (nI (nn (rdc t n (skp t n p))))]) (rest := []) (b := 204) cl_X9_readItem_47 dX9_readItem_130 rfl rfl (Nat.le_of_ble_eq_true rfl) ⟨by decide, by decide⟩ (by decide) rfl rfl rfl rfl ?_
        refine c_xEnt (pl := nI (nn (rdc t n (skp t n p)))) (p := (skp t n (xNp t n (skp t n p)))) (t := t) (n := n) (f := (xNf t n 0 7 (skp t n p) f)) (s := s) iR hq3.1 hn hx hm (fun k k0 kR => ?_)
        show mM G mX9_readItem 133 [some (.ref 204), some (.int (chr t n (skp t n p))), some (.int (nI (nn (rdc t n (skp t n p)))))] [] S1 k (0, 0) Q
        refine m_goto (tgt := 144) dX9_readItem_133 (by decide) ?_
        refine m_vret dX9_readItem_144 rfl ⟨by decide, by decide⟩ ?_
        exact hQ _ (((e0.trans g0).trans i0).trans k0) (by unfold cItem; rw [if_neg h8, if_neg h14, if_pos g58]; exact kR)
      by_cases g61 : chr t n (skp t n (xNp t n (skp t n p))) = 61
      · skip
        rw [g61]
        refine m_lookup (tgt := 92) (off := 35) dX9_readItem_57 (by decide) (by decide) (by decide) ?_
        refine m_aload_n (pc' := 93) dX9_readItem_92 rfl rfl ?_
        refine m_dup (pc' := 94) dX9_readItem_93 rfl ?_
        refine m_getI (pc' := 97) fa_X9_readItem_29 dX9_readItem_94 (by decide) rfl rfl rfl ?_
        rw [show (i.1 204 2) = (nI (skp t n (xNp t n (skp t n p)))) from iR.2.2.1]
        refine m_iconst (pc' := 98) (v := 1) dX9_readItem_97 (by decide) rfl ?_
        refine m_iadd (pc' := 99) dX9_readItem_98 rfl ?_
        rw [show ((nI (skp t n (xNp t n (skp t n p)))) + 1) = (nI ((skp t n (xNp t n (skp t n p))) + 1)) from nI_1 _]
        refine m_putI (pc' := 102) (ty := .int) fa_X9_readItem_29 dX9_readItem_99 (by decide +kernel) rfl rfl (by decide) rfl rfl rfl ?_
        refine m_aload_n (pc' := 103) dX9_readItem_102 rfl rfl ?_
        refine m_iload_n (pc' := 104) dX9_readItem_103 rfl rfl ?_
        refine m_callV (pc' := 107) (A := [.int (nI (nn (rdc t n (skp t n p))))]) (rest := []) (b := 204) cl_X9_readItem_55 dX9_readItem_104 rfl rfl (Nat.le_of_ble_eq_true rfl) ⟨by decide, by decide⟩ (by decide) rfl rfl rfl rfl ?_
        refine c_xSrc (c := (nn (rdc t n (skp t n p)))) (p := (skp t n (xNp t n (skp t n p))) + 1) (t := t) (n := n) (f := (xNf t n 0 7 (skp t n p) f)) (s := s) (iR.ps (p' := (skp t n (xNp t n (skp t n p))) + 1) rfl) (chr_lt g61 (by decide)) hn hx hc8 (fun k k0 kR => ?_)
        show mM G mX9_readItem 107 [some (.ref 204), some (.int (chr t n (skp t n p))), some (.int (nI (nn (rdc t n (skp t n p)))))] [] S1 k (0, 0) Q
        refine m_goto (tgt := 144) dX9_readItem_107 (by decide) ?_
        refine m_vret dX9_readItem_144 rfl ⟨by decide, by decide⟩ ?_
        exact hQ _ ((((e0.trans g0).trans i0).i _ (show 204 = 204 ∨ 207 ≤ 204 ∧ 204 ≤ 213 by decide)).trans k0) (by unfold cItem; rw [if_neg h8, if_neg h14, if_neg g58, if_pos g61]; exact kR)
      by_cases g114 : chr t n (skp t n (xNp t n (skp t n p))) = 114
      · skip
        rw [g114]
        refine m_lookup (tgt := 110) (off := 53) dX9_readItem_57 (by decide) (by decide) (by decide) ?_
        refine m_aload_n (pc' := 111) dX9_readItem_110 rfl rfl ?_
        refine m_dup (pc' := 112) dX9_readItem_111 rfl ?_
        refine m_getI (pc' := 115) fa_X9_readItem_29 dX9_readItem_112 (by decide) rfl rfl rfl ?_
        rw [show (i.1 204 2) = (nI (skp t n (xNp t n (skp t n p)))) from iR.2.2.1]
        refine m_iconst (pc' := 116) (v := 1) dX9_readItem_115 (by decide) rfl ?_
        refine m_iadd (pc' := 117) dX9_readItem_116 rfl ?_
        rw [show ((nI (skp t n (xNp t n (skp t n p)))) + 1) = (nI ((skp t n (xNp t n (skp t n p))) + 1)) from nI_1 _]
        refine m_putI (pc' := 120) (ty := .int) fa_X9_readItem_29 dX9_readItem_117 (by decide +kernel) rfl rfl (by decide) rfl rfl rfl ?_
        refine m_aload_n (pc' := 121) dX9_readItem_120 rfl rfl ?_
        refine m_iload_n (pc' := 122) dX9_readItem_121 rfl rfl ?_
        refine m_callV (pc' := 125) (A := [.int (nI (nn (rdc t n (skp t n p))))]) (rest := []) (b := 204) cl_X9_readItem_58 dX9_readItem_122 rfl rfl (Nat.le_of_ble_eq_true rfl) ⟨by decide, by decide⟩ (by decide) rfl rfl rfl rfl ?_
        refine c_xRes (c := (nn (rdc t n (skp t n p)))) (p := (skp t n (xNp t n (skp t n p))) + 1) (t := t) (n := n) (f := (xNf t n 0 7 (skp t n p) f)) (s := s) (iR.ps (p' := (skp t n (xNp t n (skp t n p))) + 1) rfl) (chr_lt g114 (by decide)) hn hx hc8 (fun k k0 kR => ?_)
        show mM G mX9_readItem 125 [some (.ref 204), some (.int (chr t n (skp t n p))), some (.int (nI (nn (rdc t n (skp t n p)))))] [] S1 k (0, 0) Q
        refine m_goto (tgt := 144) dX9_readItem_125 (by decide) ?_
        refine m_vret dX9_readItem_144 rfl ⟨by decide, by decide⟩ ?_
        exact hQ _ ((((e0.trans g0).trans i0).i _ (show 204 = 204 ∨ 207 ≤ 204 ∧ 204 ≤ 213 by decide)).trans k0) (by unfold cItem; rw [if_neg h8, if_neg h14, if_neg g58, if_neg g61, if_pos g114]; exact kR)
      refine m_lookup (tgt := 136) (off := 79) dX9_readItem_57 (by decide) ?_ (by decide) ?_
      · show (if (58 : Int) = _ then _ else if (61 : Int) = _ then _ else if (114 : Int) = _ then _ else 79) = 79
        rw [if_neg (fun z => tI_ne g58 (z.symm.trans (by decide))), if_neg (fun z => tI_ne g61 (z.symm.trans (by decide))), if_neg (fun z => tI_ne g114 (z.symm.trans (by decide)))]
      refine m_aload_n (pc' := 137) dX9_readItem_136 rfl rfl ?_
      refine m_aload_n (pc' := 138) dX9_readItem_137 rfl rfl ?_
      refine m_getI (pc' := 141) fa_X9_readItem_29 dX9_readItem_138 (by decide) rfl rfl rfl ?_
      rw [show (i.1 204 2) = (nI (skp t n (xNp t n (skp t n p)))) from iR.2.2.1]
      refine m_callV (pc' := 144) (A := [.int (nI (skp t n (xNp t n (skp t n p))))]) (rest := []) (b := 204) cl_X9_readItem_61 dX9_readItem_141 rfl rfl (Nat.le_of_ble_eq_true rfl) ⟨by decide, by decide⟩ (by decide) rfl rfl rfl rfl ?_
      refine c_failAt (t := t) (n := n) (p := (skp t n (xNp t n (skp t n p)))) (f := (xNf t n 0 7 (skp t n p) f)) (s := s) iR (fun k k0 kR => ?_)
      show mM G mX9_readItem 144 [some (.ref 204), some (.int (chr t n (skp t n p))), some (.int (nI (nn (rdc t n (skp t n p)))))] [] S1 k (0, 0) Q
      refine m_vret dX9_readItem_144 rfl ⟨by decide, by decide⟩ ?_
      exact hQ _ (((e0.trans g0).trans i0).trans k0) (by unfold cItem; rw [if_neg h8, if_neg h14, if_neg g58, if_neg g61, if_neg g114]; exact kR)
    · skip
      refine m_aload_n (pc' := 18) dX9_readItem_17 rfl rfl ?_
      refine m_dup (pc' := 19) dX9_readItem_18 rfl ?_
      refine m_getI (pc' := 22) fa_X9_readItem_29 dX9_readItem_19 (by decide) rfl rfl rfl ?_
      rw [show (e.1 204 2) = (nI (skp t n p)) from eR.2.2.1]
      refine m_iconst (pc' := 23) (v := 1) dX9_readItem_22 (by decide) rfl ?_
      refine m_iadd (pc' := 24) dX9_readItem_23 rfl ?_
      rw [show ((nI (skp t n p)) + 1) = (nI ((skp t n p) + 1)) from nI_1 _]
      refine m_putI (pc' := 27) (ty := .int) fa_X9_readItem_29 dX9_readItem_24 (by decide +kernel) rfl rfl (by decide) rfl rfl rfl ?_
      refine m_aload_n (pc' := 28) dX9_readItem_27 rfl rfl ?_
      refine m_iload_n (pc' := 29) dX9_readItem_28 rfl rfl ?_
      refine m_bipush (pc' := 31) (v := 103) dX9_readItem_29 (by decide) rfl ?_
      refine m_icmp_ne (tgt := 39) (pc' := 34) dX9_readItem_31 (by decide) rfl (fun h31 => ?_) (fun h31 => absurd h31 (by rw [h14]; decide))
      refine m_bipush (pc' := 41) (v := 9) dX9_readItem_39 (by decide) rfl ?_
      refine m_callV (pc' := 44) (A := [.int 9]) (rest := []) (b := 204) cl_X9_readItem_47 dX9_readItem_41 rfl rfl (Nat.le_of_ble_eq_true rfl) ⟨by decide, by decide⟩ (by decide) rfl rfl rfl rfl ?_
      refine c_xEnt (pl := 9) (p := ((skp t n p) + 1)) (t := t) (n := n) (f := f) (s := s) (eR.ps (p' := (skp t n p) + 1) rfl) (by first | exact chr_lt h8 (by decide) | exact chr_lt h14 (by decide)) hn hx hm (fun k k0 kR => ?_)
      show mM G mX9_readItem 44 [some (.ref 204), some (.int (chr t n (skp t n p))), none] [] S1 k (0, 0) Q
      refine m_vret dX9_readItem_44 rfl ⟨by decide, by decide⟩ ?_
      exact hQ _ ((e0.i _ (show 204 = 204 ∨ 207 ≤ 204 ∧ 204 ≤ 213 by decide)).trans k0) (by unfold cItem; rw [if_neg h8, if_pos h14]; exact kR)
set_option maxHeartbeats 4000000 in
set_option maxRecDepth 100000 in
theorem c_xItems0 {s0 : SS} {d0 : Dt} (hn : n ≤ 140) (hx : okX t n) (hm0 : okm s0) (hR0 : RX t n 0 (-1) s0 d0) (hY : ¬ (pAll t n n 0 s0).1 = 0 → ∀ d', fr rxE nE d0 d' → RX t n (pAll t n n 0 s0).2.2.1 (-1) (pAll t n n 0 s0).2.2.2 d' → (∀ j, 76 ≤ j → (pAll t n n 0 s0).2.2.2 j = s0 j) → Q (some (.int (nI (pAll t n n 0 s0).2.1))) S1 d') (hN : (pAll t n n 0 s0).1 = 0 → ∀ d' v, fr rxE nE d0 d' → d'.1 204 3 = nI (pAll t n n 0 s0).2.2.1 → Q (some (.int v)) S1 d') : mM G mX9_readItems 20 [some (.ref 204), some (.ref 2), some (.int (nI 0))] [] S1 d0 (0, 0) Q := by
  have J12 : ∀ (f : Nat) (p : Nat) (s : SS) (k : Nat) (d1 : Dt) (_ : n - p ≤ f) (_ : p ≤ n) (_ : k ≤ p) (_ : okm s) (_ : fr rxE nE d0 d1) (_ : RX t n p (-1) s d1) (_ : ∀ j, 76 ≤ j → s j = s0 j) (_ : (pAll t n n 0 s0) = ((pAll t n f p s).1, k + (pAll t n f p s).2.1, (pAll t n f p s).2.2)), mM G mX9_readItems 20 [some (.ref 204), some (.ref 2), some (.int (nI k))] [] S1 d1 (0, 0) Q := by
    intro f
    induction f with
    | zero =>
      intro p s k d1 hk hpn hkp hm hf hR hp hX
      have hq : ¬ (skp t n p) < n := by have := skp_le' (t := t) hpn; omega
      refine m_iload_n (pc' := 21) dX9_readItems_20 rfl rfl ?_
      refine m_sipush (pc' := 24) (v := 140) dX9_readItems_21 (by decide) rfl ?_
      refine m_icmp_ge (tgt := 51) (pc' := 27) dX9_readItems_24 (by decide) rfl (fun h24 => ?_) (fun h24 => ?_)
      · skip
        refine m_iload_n (pc' := 52) dX9_readItems_51 rfl rfl ?_
        refine m_iret dX9_readItems_52 rfl rfl ⟨by decide, by decide⟩ ?_
        have hz := (show (pAll t n n 0 s0) = (1, k, (skp t n p), s) by rw [hX, pAll_end hq]; rfl)
        rw [hz] at hY
        have hpq : p = n := by have := (nI_leI (a := 140) (by decide) (by omega)).mp h24; omega
        exact hY (show ¬ (1 : Int32) = 0 by decide) d1 hf (by rw [show (skp t n p) = p from skp_n (by omega)]; exact hR) hp
      · skip
        refine m_aload_n (pc' := 28) dX9_readItems_27 rfl rfl ?_
        refine m_callV (pc' := 31) (A := []) (rest := []) (b := 204) cl_X9_readItems_36 dX9_readItems_28 rfl rfl (Nat.le_of_ble_eq_true rfl) ⟨by decide, by decide⟩ (by decide) rfl rfl rfl rfl ?_
        refine c_hasFailed (f := (-1)) hR.2.2.2.1 ?_
        show mM G mX9_readItems 31 [some (.ref 204), some (.ref 2), some (.int (nI k))] [.int (fld (-1))] S1 d1 (0, 0) Q
        rw [show (fld (-1)) = 0 from if_pos (by decide)]
        refine m_if_ne (tgt := 51) (pc' := 34) dX9_readItems_31 (by decide) rfl (fun h31 => absurd h31 (by decide)) (fun h31 => ?_)
        refine m_aload_n (pc' := 35) dX9_readItems_34 rfl rfl ?_
        refine m_callV (pc' := 38) (A := []) (rest := []) (b := 204) cl_X9_readItems_40 dX9_readItems_35 rfl rfl (Nat.le_of_ble_eq_true rfl) ⟨by decide, by decide⟩ (by decide) rfl rfl rfl rfl ?_
        refine c_next (p := p) (P := (skp t n p)) (t := t) (n := n) (f := -1) (s := s) hR hpn hn hx rfl (fun e e0 eR => ?_)
        show mM G mX9_readItems 38 [some (.ref 204), some (.ref 2), some (.int (nI k))] [.int (chr t n (skp t n p))] S1 e (0, 0) Q
        rw [show (chr t n (skp t n p)) = 0 from chr_no hq]
        refine m_if_eq (tgt := 51) (pc' := 41) dX9_readItems_38 (by decide) rfl (fun h38 => ?_) (fun h38 => absurd h38 (by decide))
        refine m_iload_n (pc' := 52) dX9_readItems_51 rfl rfl ?_
        refine m_iret dX9_readItems_52 rfl rfl ⟨by decide, by decide⟩ ?_
        have hz := (show (pAll t n n 0 s0) = (1, k, (skp t n p), s) by rw [hX, pAll_end hq]; rfl)
        rw [hz] at hY
        exact hY (show ¬ (1 : Int32) = 0 by decide) e (hf.trans e0) eR hp
    | succ f ih =>
      intro p s k d1 hk hpn hkp hm hf hR hp hX
      have hqp := skp_le' (t := t) hpn
      by_cases hq : (skp t n p) < n
      · skip
        obtain ⟨c, c1, c2, c3⟩ := hx _ hq
        refine m_iload_n (pc' := 21) dX9_readItems_20 rfl rfl ?_
        refine m_sipush (pc' := 24) (v := 140) dX9_readItems_21 (by decide) rfl ?_
        refine m_icmp_ge (tgt := 51) (pc' := 27) dX9_readItems_24 (by decide) rfl (fun h24 => absurd h24 (nI_ge (b := 140) (by omega) (by omega))) (fun h24 => ?_)
        refine m_aload_n (pc' := 28) dX9_readItems_27 rfl rfl ?_
        refine m_callV (pc' := 31) (A := []) (rest := []) (b := 204) cl_X9_readItems_36 dX9_readItems_28 rfl rfl (Nat.le_of_ble_eq_true rfl) ⟨by decide, by decide⟩ (by decide) rfl rfl rfl rfl ?_
        refine c_hasFailed (f := (-1)) hR.2.2.2.1 ?_
        show mM G mX9_readItems 31 [some (.ref 204), some (.ref 2), some (.int (nI k))] [.int (fld (-1))] S1 d1 (0, 0) Q
        rw [show (fld (-1)) = 0 from if_pos (by decide)]
        refine m_if_ne (tgt := 51) (pc' := 34) dX9_readItems_31 (by decide) rfl (fun h31 => absurd h31 (by decide)) (fun h31 => ?_)
        refine m_aload_n (pc' := 35) dX9_readItems_34 rfl rfl ?_
        refine m_callV (pc' := 38) (A := []) (rest := []) (b := 204) cl_X9_readItems_40 dX9_readItems_35 rfl rfl (Nat.le_of_ble_eq_true rfl) ⟨by decide, by decide⟩ (by decide) rfl rfl rfl rfl ?_
        refine c_next (p := p) (P := (skp t n p)) (t := t) (n := n) (f := -1) (s := s) hR hpn hn hx rfl (fun e e0 eR => ?_)
        show mM G mX9_readItems 38 [some (.ref 204), some (.ref 2), some (.int (nI k))] [.int (chr t n (skp t n p))] S1 e (0, 0) Q
        rw [show (chr t n (skp t n p)) = (nI c) from (chr_in hq).trans c3]
        refine m_if_eq (tgt := 51) (pc' := 41) dX9_readItems_38 (by decide) rfl (fun h38 => absurd h38 (nI_ne0 (by omega) (by omega))) (fun h38 => ?_)
        refine m_aload_n (pc' := 42) dX9_readItems_41 rfl rfl ?_
        refine m_callV (pc' := 45) (A := []) (rest := []) (b := 204) cl_X9_readItems_44 dX9_readItems_42 rfl rfl (Nat.le_of_ble_eq_true rfl) ⟨by decide, by decide⟩ (by decide) rfl rfl rfl rfl ?_
        refine c_xItem (p := (skp t n p)) (t := t) (n := n) (f := -1) (s := s) eR (Nat.le_of_lt hq) hn hx hm (fun z z0 zR => ?_)
        show mM G mX9_readItems 45 [some (.ref 204), some (.ref 2), some (.int (nI k))] [] S1 z (0, 0) Q
        refine m_iinc (pc' := 48) dX9_readItems_45 rfl (by decide) (v := nI (k + 1)) (nI_1 k) rfl rfl ?_
        refine m_goto (tgt := 20) dX9_readItems_48 (by decide) ?_
        have hG := pItem_G (t := t) (n := n) (p := (skp t n p)) (s := s) (Nat.le_of_lt hq) hm
        have hEQ := item_EQ (t := t) (s := s) (f := -1) (Nat.le_of_lt hq) hn hx hm (by decide)
        have hX2 : pAll t n (f + 1) p s = if (pItem t n (skp t n p) s).1 = 0 then (0, 1, (pItem t n (skp t n p) s).2) else ((pAll t n f (pItem t n (skp t n p) s).2.1 (pItem t n (skp t n p) s).2.2).1, (pAll t n f (pItem t n (skp t n p) s).2.1 (pItem t n (skp t n p) s).2.2).2.1 + 1, (pAll t n f (pItem t n (skp t n p) s).2.1 (pItem t n (skp t n p) s).2.2).2.2) := if_pos hq
        by_cases hr : (pItem t n (skp t n p) s).1 = 0
        · skip
          rw [if_pos hr] at hX2
          have hz : (pAll t n n 0 s0) = (0, k + 1, (pItem t n (skp t n p) s).2) := by rw [hX, hX2]
          rw [hz] at hN
          have z3 : z.1 204 3 = nI (pItem t n (skp t n p) s).2.1 := zR.2.2.2.1.trans (hEQ.1 hr)
          refine m_iload_n (pc' := 21) dX9_readItems_20 rfl rfl ?_
          refine m_sipush (pc' := 24) (v := 140) dX9_readItems_21 (by decide) rfl ?_
          refine m_icmp_ge (tgt := 51) (pc' := 27) dX9_readItems_24 (by decide) rfl (fun h24 => ?_) (fun h24 => ?_)
          · skip
            refine m_iload_n (pc' := 52) dX9_readItems_51 rfl rfl ?_
            refine m_iret dX9_readItems_52 rfl rfl ⟨by decide, by decide⟩ ?_
            exact hN rfl z _ ((hf.trans e0).trans z0) z3
          · skip
            refine m_aload_n (pc' := 28) dX9_readItems_27 rfl rfl ?_
            refine m_callV (pc' := 31) (A := []) (rest := []) (b := 204) cl_X9_readItems_36 dX9_readItems_28 rfl rfl (Nat.le_of_ble_eq_true rfl) ⟨by decide, by decide⟩ (by decide) rfl rfl rfl rfl ?_
            refine c_hasFailed (f := nI (pItem t n (skp t n p) s).2.1) z3 ?_
            show mM G mX9_readItems 31 [some (.ref 204), some (.ref 2), some (.int (nI (k + 1)))] [.int (fld (nI (pItem t n (skp t n p) s).2.1))] S1 z (0, 0) Q
            rw [show (fld (nI (pItem t n (skp t n p) s).2.1)) = 1 from if_neg (nI_ge0 (by have := hG.1; omega))]
            refine m_if_ne (tgt := 51) (pc' := 34) dX9_readItems_31 (by decide) rfl (fun h31 => ?_) (fun h31 => absurd h31 (by decide))
            refine m_iload_n (pc' := 52) dX9_readItems_51 rfl rfl ?_
            refine m_iret dX9_readItems_52 rfl rfl ⟨by decide, by decide⟩ ?_
            exact hN rfl z _ ((hf.trans e0).trans z0) z3
        rw [if_neg hr] at hX2
        obtain ⟨h1, h2⟩ := hG.2.1.resolve_left hr
        have hC := hEQ.2 hr
        exact ih (pItem t n (skp t n p) s).2.1 (pItem t n (skp t n p) s).2.2 (k + 1) z (by omega) hG.1 (by omega) hG.2.2.2 ((hf.trans e0).trans z0) (by rw [hC] at zR; exact zR) (fun j hj => (hG.2.2.1 j hj).trans (hp j hj)) (by rw [hX, hX2]; show (_, k + (_ + 1), _) = _; rw [show ∀ x : Nat, k + (x + 1) = k + 1 + x from fun x => by omega])
      refine m_iload_n (pc' := 21) dX9_readItems_20 rfl rfl ?_
      refine m_sipush (pc' := 24) (v := 140) dX9_readItems_21 (by decide) rfl ?_
      refine m_icmp_ge (tgt := 51) (pc' := 27) dX9_readItems_24 (by decide) rfl (fun h24 => ?_) (fun h24 => ?_)
      · skip
        refine m_iload_n (pc' := 52) dX9_readItems_51 rfl rfl ?_
        refine m_iret dX9_readItems_52 rfl rfl ⟨by decide, by decide⟩ ?_
        have hz := (show (pAll t n n 0 s0) = (1, k, (skp t n p), s) by rw [hX, pAll_end hq]; rfl)
        rw [hz] at hY
        have hpq : p = n := by have := (nI_leI (a := 140) (by decide) (by omega)).mp h24; omega
        exact hY (show ¬ (1 : Int32) = 0 by decide) d1 hf (by rw [show (skp t n p) = p from skp_n (by omega)]; exact hR) hp
      · skip
        refine m_aload_n (pc' := 28) dX9_readItems_27 rfl rfl ?_
        refine m_callV (pc' := 31) (A := []) (rest := []) (b := 204) cl_X9_readItems_36 dX9_readItems_28 rfl rfl (Nat.le_of_ble_eq_true rfl) ⟨by decide, by decide⟩ (by decide) rfl rfl rfl rfl ?_
        refine c_hasFailed (f := (-1)) hR.2.2.2.1 ?_
        show mM G mX9_readItems 31 [some (.ref 204), some (.ref 2), some (.int (nI k))] [.int (fld (-1))] S1 d1 (0, 0) Q
        rw [show (fld (-1)) = 0 from if_pos (by decide)]
        refine m_if_ne (tgt := 51) (pc' := 34) dX9_readItems_31 (by decide) rfl (fun h31 => absurd h31 (by decide)) (fun h31 => ?_)
        refine m_aload_n (pc' := 35) dX9_readItems_34 rfl rfl ?_
        refine m_callV (pc' := 38) (A := []) (rest := []) (b := 204) cl_X9_readItems_40 dX9_readItems_35 rfl rfl (Nat.le_of_ble_eq_true rfl) ⟨by decide, by decide⟩ (by decide) rfl rfl rfl rfl ?_
        refine c_next (p := p) (P := (skp t n p)) (t := t) (n := n) (f := -1) (s := s) hR hpn hn hx rfl (fun e e0 eR => ?_)
        show mM G mX9_readItems 38 [some (.ref 204), some (.ref 2), some (.int (nI k))] [.int (chr t n (skp t n p))] S1 e (0, 0) Q
        rw [show (chr t n (skp t n p)) = 0 from chr_no hq]
        refine m_if_eq (tgt := 51) (pc' := 41) dX9_readItems_38 (by decide) rfl (fun h38 => ?_) (fun h38 => absurd h38 (by decide))
        refine m_iload_n (pc' := 52) dX9_readItems_51 rfl rfl ?_
        refine m_iret dX9_readItems_52 rfl rfl ⟨by decide, by decide⟩ ?_
        have hz := (show (pAll t n n 0 s0) = (1, k, (skp t n p), s) by rw [hX, pAll_end hq]; rfl)
        rw [hz] at hY
        exact hY (show ¬ (1 : Int32) = 0 by decide) e (hf.trans e0) eR hp
  exact J12 n 0 s0 0 d0 (by omega) (Nat.zero_le _) (Nat.le_refl _) hm0 fr.rfl hR0 (fun _ _ => rfl) (by rw [Nat.zero_add])
set_option maxHeartbeats 4000000 in
set_option maxRecDepth 100000 in
theorem c_xItems {s0 : SS} (hn : n ≤ 140) (hx : okX t n) (hm0 : okm s0) (h1 : d.1 205 1 = nI n) (h2 : ∀ j, j < n → d.1 206 j = t j) (hS : SR d 2 s0) (hY : ¬ (pAll t n n 0 s0).1 = 0 → ∀ d', fr rxE nE d d' → RX t n (pAll t n n 0 s0).2.2.1 (-1) (pAll t n n 0 s0).2.2.2 d' → (∀ j, 76 ≤ j → (pAll t n n 0 s0).2.2.2 j = s0 j) → Q (some (.int (nI (pAll t n n 0 s0).2.1))) S1 d') (hN : (pAll t n n 0 s0).1 = 0 → ∀ d' v, fr rxE nE d d' → d'.1 204 3 = nI (pAll t n n 0 s0).2.2.1 → Q (some (.int v)) S1 d') : mC G mX9_readItems [.ref 204, .ref 2] S1 d Q := by
  refine mC_of (by decide +kernel) ⟨_, rfl⟩ (Nat.le_of_ble_eq_true rfl) ?_
  show mM G mX9_readItems 0 [some (.ref 204), some (.ref 2), none] [] S1 d (0, 0) Q
  refine m_aload_n (pc' := 1) dX9_readItems_0 rfl rfl ?_
  refine m_getR (pc' := 4) fa_X9_readItems_21 dX9_readItems_1 (by decide) rfl rfl rfl rfl ?_
  refine m_aload_n (pc' := 5) dX9_readItems_4 rfl rfl ?_
  refine m_callV (pc' := 8) (A := [.ref 2]) (rest := []) (b := 207) cl_X9_readItems_25 dX9_readItems_5 rfl rfl (Nat.le_of_ble_eq_true rfl) ⟨by decide, by decide⟩ (by decide) rfl rfl rfl rfl ?_
  refine c_scopy (a := 207) (b := 2) (s := s0) (by decide) (by decide) (by decide) hS (fun e e0 eS => ?_)
  show mM G mX9_readItems 8 [some (.ref 204), some (.ref 2), none] [] S1 e (0, 0) Q
  refine m_aload_n (pc' := 9) dX9_readItems_8 rfl rfl ?_
  refine m_iconst (pc' := 10) (v := 0) dX9_readItems_9 (by decide) rfl ?_
  refine m_putI (pc' := 13) (ty := .int) fa_X9_readItems_29 dX9_readItems_10 (by decide +kernel) rfl rfl (by decide) rfl rfl rfl ?_
  refine m_aload_n (pc' := 14) dX9_readItems_13 rfl rfl ?_
  refine m_iconst (pc' := 15) (v := (-1)) dX9_readItems_14 (by decide) rfl ?_
  refine m_putI (pc' := 18) (ty := .int) fa_X9_readItems_33 dX9_readItems_15 (by decide +kernel) rfl rfl (by decide) rfl rfl rfl ?_
  refine m_iconst (pc' := 19) (v := 0) dX9_readItems_18 (by decide) rfl ?_
  refine m_istore_n (pc' := 20) dX9_readItems_19 (by decide) rfl rfl ?_
  have f0 : fr (fun x _ => x = 204) nE e (u2 (u2 e.1 204 2 0) 204 3 (-1), e.2) := ((fr.rfl (E := fun x _ => x = 204) (EF := nE)).i _ rfl).i _ rfl
  have fx : fr rxE nE d (u2 (u2 e.1 204 2 0) 204 3 (-1), e.2) := (su_rx e0).trans (f0.mono (by intro x j z; have : x = 204 := z; omega) (fun _ _ => id))
  refine c_xItems0 (t := t) (n := n) (s0 := s0) (d0 := (u2 (u2 e.1 204 2 0) 204 3 (-1), e.2)) hn hx hm0 ⟨(f0.1 205 1 (show ¬ (205 = 204) by decide)).trans ((e0.1 205 1 (by omega)).trans h1), fun j hj => (f0.1 206 j (show ¬ (206 = 204) by decide)).trans ((e0.1 206 j (by omega)).trans (h2 j hj)), ?_, (show u2 (u2 e.1 204 2 0) 204 3 (-1) 204 3 = -1 from u2_same), eS.fr f0 (fun j => show ¬ (209 = 204) by decide) (fun j => show ¬ (211 = 204) by decide) (fun j => show ¬ (213 = 204) by decide) (show ¬ (207 = 204) by decide)⟩ (fun z d' a b c => hY z d' (fx.trans a) b c) (fun z d' v a b => hN z d' v (fx.trans a) b)
  show u2 (u2 e.1 204 2 0) 204 3 (-1) 204 2 = nI 0
  exact (u2_oth (show 2 ≠ 3 by decide) 204).trans u2_same
set_option maxHeartbeats 4000000 in
set_option maxRecDepth 100000 in
theorem k_load {A : AS}  (hC : CR d A) (hO : OK A) (hQ : ∀ d', cfr d d' → CR d' (opLoad A).2 → Q (some (.int (opLoad A).1)) S1 d') : mC G mX10_load [.ref 0] S1 d Q := by
  by_cases hX : (pTxt A).1 = 0
  · skip
    rw [show opLoad A = (-20000000 - nI (pTxt A).2.2.1, A) from if_pos hX] at hQ
    refine mC_of (by decide +kernel) ⟨_, rfl⟩ (Nat.le_of_ble_eq_true rfl) ?_
    show mM G mX10_load 0 [some (.ref 0), none] [] S1 d (0, 0) Q
    refine m_aload_n (pc' := 1) dX10_load_0 rfl rfl ?_
    refine m_getR (pc' := 4) fa_X10_load_47 dX10_load_1 (by decide) rfl rfl rfl rfl ?_
    refine m_aload_n (pc' := 5) dX10_load_4 rfl rfl ?_
    refine m_getR (pc' := 8) fa_X10_load_10 dX10_load_5 (by decide) rfl rfl rfl rfl ?_
    refine m_getR (pc' := 11) fa_X10_load_64 dX10_load_8 (by decide) rfl rfl rfl rfl ?_
    refine m_callV (pc' := 14) (A := [.ref 2]) (rest := []) (b := 204) cl_X10_load_187 dX10_load_11 rfl rfl (Nat.le_of_ble_eq_true rfl) ⟨by decide, by decide⟩ (by decide) rfl rfl rfl rfl ?_
    refine c_xItems (t := a_t A) (n := a_n A) (s0 := a_s A) hO.2.2.2.1 (fun j hj => hO.2.2.2.2 j hj) hO.m hC.2.2.1 hC.2.2.2 hC.1.1 (fun h => absurd hX h) (fun _ x v x0 x3 => ?_)
    show mM G mX10_load 14 [some (.ref 0), none] [.int v] S1 x (0, 0) Q
    have xC : CR x A := CR_dr hC (x0.mono (fun x j z => (show drE x j by omega)) (fun _ _ => id))
    refine m_istore_n (pc' := 15) dX10_load_14 (by decide) rfl rfl ?_
    refine m_aload_n (pc' := 16) dX10_load_15 rfl rfl ?_
    refine m_getR (pc' := 19) fa_X10_load_47 dX10_load_16 (by decide) rfl rfl rfl rfl ?_
    refine m_callV (pc' := 22) (A := []) (rest := []) (b := 204) cl_X10_load_191 dX10_load_19 rfl rfl (Nat.le_of_ble_eq_true rfl) ⟨by decide, by decide⟩ (by decide) rfl rfl rfl rfl ?_
    refine c_hasFailed (f := nI (pTxt A).2.2.1) x3 ?_
    show mM G mX10_load 22 [some (.ref 0), some (.int v)] [.int (fld (nI (pTxt A).2.2.1))] S1 x (0, 0) Q
    rw [show (fld (nI (pTxt A).2.2.1)) = 1 from if_neg (nI_ge0 (pTxt_lt hO))]
    refine m_if_eq (tgt := 36) (pc' := 25) dX10_load_22 (by decide) rfl (fun h22 => absurd h22 (by decide)) (fun h22 => ?_)
    refine m_ldc (pc' := 27) dX10_load_25 kc_X10_load_195 rfl ?_
    refine m_aload_n (pc' := 28) dX10_load_27 rfl rfl ?_
    refine m_getR (pc' := 31) fa_X10_load_47 dX10_load_28 (by decide) rfl rfl rfl rfl ?_
    refine m_getI (pc' := 34) fa_X10_load_196 dX10_load_31 (by decide) rfl rfl rfl ?_
    rw [show (x.1 204 3) = (nI (pTxt A).2.2.1) from x3]
    refine m_isub (pc' := 35) dX10_load_34 rfl ?_
    refine m_iret dX10_load_35 rfl rfl ⟨by decide, by decide⟩ ?_
    exact hQ x (dr_cf (x0.mono (fun x j z => (show drE x j by omega)) (fun _ _ => id))) xC
  rw [show opLoad A = (nI (pTxt A).2.1, ((pTxt A).2.2.2, hm (a_m A) + 1, hsv2 (a_m A) (a_v A) (a_s A), hsc2 (a_m A) (a_c A) (a_h A), a_h A, a_t A, 0)) from if_neg hX] at hQ
  refine mC_of (by decide +kernel) ⟨_, rfl⟩ (Nat.le_of_ble_eq_true rfl) ?_
  show mM G mX10_load 0 [some (.ref 0), none] [] S1 d (0, 0) Q
  refine m_aload_n (pc' := 1) dX10_load_0 rfl rfl ?_
  refine m_getR (pc' := 4) fa_X10_load_47 dX10_load_1 (by decide) rfl rfl rfl rfl ?_
  refine m_aload_n (pc' := 5) dX10_load_4 rfl rfl ?_
  refine m_getR (pc' := 8) fa_X10_load_10 dX10_load_5 (by decide) rfl rfl rfl rfl ?_
  refine m_getR (pc' := 11) fa_X10_load_64 dX10_load_8 (by decide) rfl rfl rfl rfl ?_
  refine m_callV (pc' := 14) (A := [.ref 2]) (rest := []) (b := 204) cl_X10_load_187 dX10_load_11 rfl rfl (Nat.le_of_ble_eq_true rfl) ⟨by decide, by decide⟩ (by decide) rfl rfl rfl rfl ?_
  refine c_xItems (t := a_t A) (n := a_n A) (s0 := a_s A) hO.2.2.2.1 (fun j hj => hO.2.2.2.2 j hj) hO.m hC.2.2.1 hC.2.2.2 hC.1.1 (fun _ x x0 xR xh => ?_) (fun h => absurd h hX)
  show mM G mX10_load 14 [some (.ref 0), none] [.int (nI (pTxt A).2.1)] S1 x (0, 0) Q
  have xC : CR x A := CR_dr hC (x0.mono (fun x j z => (show drE x j by omega)) (fun _ _ => id))
  refine m_istore_n (pc' := 15) dX10_load_14 (by decide) rfl rfl ?_
  refine m_aload_n (pc' := 16) dX10_load_15 rfl rfl ?_
  refine m_getR (pc' := 19) fa_X10_load_47 dX10_load_16 (by decide) rfl rfl rfl rfl ?_
  refine m_callV (pc' := 22) (A := []) (rest := []) (b := 204) cl_X10_load_191 dX10_load_19 rfl rfl (Nat.le_of_ble_eq_true rfl) ⟨by decide, by decide⟩ (by decide) rfl rfl rfl rfl ?_
  refine c_hasFailed (f := -1) xR.2.2.2.1 ?_
  show mM G mX10_load 22 [some (.ref 0), some (.int (nI (pTxt A).2.1))] [.int (fld (-1))] S1 x (0, 0) Q
  rw [show (fld (-1)) = 0 from if_pos (by decide)]
  refine m_if_eq (tgt := 36) (pc' := 25) dX10_load_22 (by decide) rfl (fun h22 => ?_) (fun h22 => absurd h22 (by decide))
  refine m_aload_n (pc' := 37) dX10_load_36 rfl rfl ?_
  refine m_getR (pc' := 40) fa_X10_load_19 dX10_load_37 (by decide) rfl rfl rfl rfl ?_
  refine m_aload_n (pc' := 41) dX10_load_40 rfl rfl ?_
  refine m_getR (pc' := 44) fa_X10_load_10 dX10_load_41 (by decide) rfl rfl rfl rfl ?_
  refine m_callV (pc' := 47) (A := [.ref 1]) (rest := []) (b := 32) cl_X10_load_60 dX10_load_44 rfl rfl (Nat.le_of_ble_eq_true rfl) ⟨by decide, by decide⟩ (by decide) rfl rfl rfl rfl ?_
  refine c_keep xC.1 xC.2.1 hO (fun g g0 gH => ?_)
  show mM G mX10_load 47 [some (.ref 0), some (.int (nI (pTxt A).2.1))] [] S1 g (0, 0) Q
  have gC := CR_keep xC g0 gH
  refine m_aload_n (pc' := 48) dX10_load_47 rfl rfl ?_
  refine m_getR (pc' := 51) fa_X10_load_10 dX10_load_48 (by decide) rfl rfl rfl rfl ?_
  refine m_getR (pc' := 54) fa_X10_load_64 dX10_load_51 (by decide) rfl rfl rfl rfl ?_
  refine m_aload_n (pc' := 55) dX10_load_54 rfl rfl ?_
  refine m_getR (pc' := 58) fa_X10_load_47 dX10_load_55 (by decide) rfl rfl rfl rfl ?_
  refine m_getR (pc' := 61) fa_X10_load_199 dX10_load_58 (by decide) rfl rfl rfl rfl ?_
  refine m_callV (pc' := 64) (A := [.ref 207]) (rest := []) (b := 2) cl_X10_load_165 dX10_load_61 rfl rfl (Nat.le_of_ble_eq_true rfl) ⟨by decide, by decide⟩ (by decide) rfl rfl rfl rfl ?_
  refine c_scopy (a := 2) (b := 207) (s := (pTxt A).2.2.2) (by decide) (by decide) (by decide) (xR.2.2.2.2.fr g0 (fun j => by omega) (fun j => by omega) (fun j => by omega) (by omega)) (fun y y0 yS => ?_)
  show mM G mX10_load 64 [some (.ref 0), some (.int (nI (pTxt A).2.1))] [] S1 y (0, 0) Q
  refine m_aload_n (pc' := 65) dX10_load_64 rfl rfl ?_
  refine m_getR (pc' := 68) fa_X10_load_47 dX10_load_65 (by decide) rfl rfl rfl rfl ?_
  refine m_getR (pc' := 71) fa_X10_load_175 dX10_load_68 (by decide) rfl rfl rfl rfl ?_
  refine m_iconst (pc' := 72) (v := 0) dX10_load_71 (by decide) rfl ?_
  refine m_putI (pc' := 75) (ty := .int) fa_X10_load_179 dX10_load_72 (by decide +kernel) rfl rfl (by decide) rfl rfl rfl ?_
  refine m_iload_n (pc' := 76) dX10_load_75 rfl rfl ?_
  refine m_iret dX10_load_76 rfl rfl ⟨by decide, by decide⟩ ?_
  have yC := CR_su (s := a_s A) gC y0 yS xh
  have f0 : fr (fun x _ => x = 205) nE y (u2 y.1 205 1 0, y.2) := fr.i fr.rfl _ rfl
  exact hQ _ ((((dr_cf (x0.mono (fun x j z => (show drE x j by omega)) (fun _ _ => id))).trans (kp_cf g0)).trans (su_cf y0)).trans (f0.mono (by intro x j h; have : x = 205 := h; omega) (fun _ _ => False.elim))) ⟨TR_bk yC.1 ⟨fun x j h1 h2 => f0.1 x j (by omega), fun j => rfl⟩, HS_bk (A := ((pTxt A).2.2.2, hm (a_m A) + 1, hsv2 (a_m A) (a_v A) (a_s A), hsc2 (a_m A) (a_c A) (a_h A), a_h A, a_t A, 0)) yC.2.1 (fun x j h1 h2 => f0.1 x j (by omega)) (fun _ _ _ _ => rfl), (show u2 y.1 205 1 0 205 1 = nI 0 from u2_same), fun j hj => absurd hj (Nat.not_lt_zero j)⟩
end CLS25
