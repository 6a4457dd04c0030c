/-! THE CHECK'S OWN METHODS (2): lists, trial runs -/
section MOD2
variable {G : GP} {Q : Option Value → Sh → Dt → Prop} {d : Dt} {s : SS}
set_option maxHeartbeats 4000000 in
set_option maxRecDepth 100000 in
theorem c_mcoTo {n t0 e : Nat} {h0 : UInt32} (hs : d.1 215 = s) (hc : ∀ c, c < 8 → okC s c) (hl : okL s n) (ht : s 76 = nI t0) (ht0 : t0 < 100000) (he : e < n) (h6 : d.2 214 6 = h0) (hQ : ∀ d', simD d d' → d'.1 214 10 = nI (et s t0 (e + 1)) → d'.2 214 9 = eh s t0 h0 (e + 1) → d'.1 214 11 = er s t0 h0 e → d'.1 214 12 = ec s t0 h0 e → d'.1 214 13 = ee s t0 h0 e → Q none S1 d') : mC G mX11_carryOutTo [.ref 214, .int (nI e)] S1 d Q := by
  have hn16 := hl.1
  have J : ∀ (n0 : Nat) (k : Nat) (d1 : Dt) (_ : k + n0 = e + 1) (_ : simD d d1) (_ : d1.1 215 = s) (_ : d1.1 214 10 = nI (et s t0 k)) (_ : d1.2 214 9 = eh s t0 h0 k) (_ : 0 < k → d1.1 214 11 = er s t0 h0 (k - 1) ∧ d1.1 214 12 = ec s t0 h0 (k - 1) ∧ d1.1 214 13 = ee s t0 h0 (k - 1)), mM G mX11_carryOutTo 6 [some (.ref 214), some (.int (nI e)), some (.int (nI k))] [] S1 d1 (0, 0) Q := by
    intro n0
    induction n0 with
    | zero =>
      intro k d1 hk hd hs h10 h9 hr
      refine m_iload_n (pc' := 7) dX11_carryOutTo_6 rfl rfl ?_
      refine m_iload_n (pc' := 8) dX11_carryOutTo_7 rfl rfl ?_
      refine m_icmp_gt (tgt := 31) (pc' := 11) dX11_carryOutTo_8 (by decide) rfl (fun h8 => ?_) (fun h8 => (h8 (nI_lt (by omega) (by omega))).elim)
      refine m_vret dX11_carryOutTo_31 rfl ⟨by decide, by decide⟩ ?_
      obtain rfl : k = e + 1 := by omega
      exact hQ _ hd h10 h9 (hr (by omega)).1 (hr (by omega)).2.1 (hr (by omega)).2.2
    | succ n0 ih =>
      intro k d1 hk hd hs h10 h9 hr
      refine m_iload_n (pc' := 7) dX11_carryOutTo_6 rfl rfl ?_
      refine m_iload_n (pc' := 8) dX11_carryOutTo_7 rfl rfl ?_
      refine m_icmp_gt (tgt := 31) (pc' := 11) dX11_carryOutTo_8 (by decide) rfl (fun h8 => absurd h8 (nI_nlt (by omega) (by omega))) (fun h8 => ?_)
      refine m_aload_n (pc' := 12) dX11_carryOutTo_11 rfl rfl ?_
      refine m_aload_n (pc' := 13) dX11_carryOutTo_12 rfl rfl ?_
      refine m_iload_n (pc' := 14) dX11_carryOutTo_13 rfl rfl ?_
      refine m_callV (pc' := 17) (A := [.int (nI k)]) (rest := [.ref 214]) (b := 214) cl_X11_carryOutTo_89 dX11_carryOutTo_14 rfl rfl (Nat.le_of_ble_eq_true rfl) ⟨by decide, by decide⟩ (by decide) rfl rfl rfl rfl ?_
      refine c_mplace (i := k) (s := s) hs (by omega) ?_
      show mM G mX11_carryOutTo 17 [some (.ref 214), some (.int (nI e)), some (.int (nI k))] [.int (s (44 + 2 * k)), .ref 214] S1 d1 (0, 0) Q
      rw [show (s (44 + 2 * k)) = (nI (pn s k)) from (okL_p hl (show k < n by omega)).1]
      refine m_aload_n (pc' := 18) dX11_carryOutTo_17 rfl rfl ?_
      refine m_iload_n (pc' := 19) dX11_carryOutTo_18 rfl rfl ?_
      refine m_callV (pc' := 22) (A := [.int (nI k)]) (rest := [.int (nI (pn s k)), .ref 214]) (b := 214) cl_X11_carryOutTo_93 dX11_carryOutTo_19 rfl rfl (Nat.le_of_ble_eq_true rfl) ⟨by decide, by decide⟩ (by decide) rfl rfl rfl rfl ?_
      refine c_msettle (i := k) (s := s) hs (by omega) ?_
      show mM G mX11_carryOutTo 22 [some (.ref 214), some (.int (nI e)), some (.int (nI k))] [.int (s (45 + 2 * k)), .int (nI (pn s k)), .ref 214] S1 d1 (0, 0) Q
      rw [show (s (45 + 2 * k)) = (nI (qn s k)) from (okL_q hl (show k < n by omega)).1]
      refine m_callV (pc' := 25) (A := [.int (nI (pn s k)), .int (nI (qn s k))]) (rest := []) (b := 214) cl_X11_carryOutTo_96 dX11_carryOutTo_22 rfl rfl (Nat.le_of_ble_eq_true rfl) ⟨by decide, by decide⟩ (by decide) rfl rfl rfl rfl ?_
      refine c_mcarry (p := (pn s k)) (q := (qn s k)) (t := (et s t0 k)) (h := (eh s t0 h0 k)) (s := s) hs (pok_of hc (okL_p hl (show k < n by omega)).2) (okL_q hl (show k < n by omega)).2 (by have := et_le (t0 := t0) hl k (by omega); have := hl.1; omega) h10 h9 (fun d2 g0 g10 g9 g11 g12 g13 => ?_)
      show mM G mX11_carryOutTo 25 [some (.ref 214), some (.int (nI e)), some (.int (nI k))] [] S1 d2 (0, 0) Q
      refine m_iinc (pc' := 28) dX11_carryOutTo_25 rfl (by decide) (v := nI (k + 1)) (nI_1 k) rfl rfl ?_
      refine m_goto (tgt := 6) dX11_carryOutTo_28 (by decide) ?_
      exact ih (k + 1) d2 (by omega) (hd.trans g0) (g0.s hs) g10 g9 (fun _ => ⟨g11, g12, g13⟩)
  refine mC_of (by decide +kernel) ⟨_, rfl⟩ (Nat.le_of_ble_eq_true rfl) ?_
  show mM G mX11_carryOutTo 0 [some (.ref 214), some (.int (nI e)), none] [] S1 d (0, 0) Q
  refine m_aload_n (pc' := 1) dX11_carryOutTo_0 rfl rfl ?_
  refine m_callV (pc' := 4) (A := []) (rest := []) (b := 214) cl_X11_carryOutTo_86 dX11_carryOutTo_1 rfl rfl (Nat.le_of_ble_eq_true rfl) ⟨by decide, by decide⟩ (by decide) rfl rfl rfl rfl ?_
  refine c_mbegin (s := s) hs (fun b b0 b10 b9 => ?_)
  show mM G mX11_carryOutTo 4 [some (.ref 214), some (.int (nI e)), none] [] S1 b (0, 0) Q
  refine m_iconst (pc' := 5) (v := 0) dX11_carryOutTo_4 (by decide) rfl ?_
  refine m_istore_n (pc' := 6) dX11_carryOutTo_5 (by decide) rfl rfl ?_
  exact J (e + 1) 0 b (by omega) b0 (b0.s hs) (b10.trans ht) (b9.trans h6) (fun h => absurd h (Nat.lt_irrefl 0))
set_option maxHeartbeats 4000000 in
set_option maxRecDepth 100000 in
theorem c_mcarries {n t0 : Nat} {h0 : UInt32} (hs : d.1 215 = s) (hc : ∀ c, c < 8 → okC s c) (hl : okL s n) (ht : s 76 = nI t0) (ht0 : t0 < 100000) (h6 : d.2 214 6 = h0) (hQ : ∀ d', simD d d' → Q (some (.int (esm s t0 h0 n))) S1 d') : mC G mX11_carries [.ref 214] S1 d Q := by
  have hn16 := hl.1
  have J : ∀ (n0 : Nat) (k : Nat) (d1 : Dt) (_ : k + n0 = n) (_ : simD d d1) (_ : d1.1 215 = s) (_ : d1.1 214 10 = nI (et s t0 k)) (_ : d1.2 214 9 = eh s t0 h0 k), mM G mX11_carries 8 [some (.ref 214), some (.int (esm s t0 h0 k)), some (.int (nI k))] [] S1 d1 (0, 0) Q := by
    intro n0
    induction n0 with
    | zero =>
      intro k d1 hk hd hs h10 h9
      refine m_iload_n (pc' := 9) dX11_carries_8 rfl rfl ?_
      refine m_aload_n (pc' := 10) dX11_carries_9 rfl rfl ?_
      refine m_getR (pc' := 13) fa_X11_carries_7 dX11_carries_10 (by decide) rfl rfl rfl rfl ?_
      refine m_bipush (pc' := 15) (v := 43) dX11_carries_13 (by decide) rfl ?_
      refine m_ialdN (pc' := 16) (j := 43) (L := 408) dX11_carries_15 (by decide) rfl rfl (rfl) (by decide) (by decide) rfl ?_
      rw [show (d1.1 215 43) = (s 43) from congrFun hs 43]
      refine m_icmp_ge (tgt := 49) (pc' := 19) dX11_carries_16 (by decide) rfl (fun h16 => ?_) (fun h16 => (h16 (by rw [hl.2.1]; exact nI_le (by omega) (by omega))).elim)
      refine m_iload_n (pc' := 50) dX11_carries_49 rfl rfl ?_
      refine m_iret dX11_carries_50 rfl rfl ⟨by decide, by decide⟩ ?_
      obtain rfl : k = n := by omega
      exact hQ _ hd
    | succ n0 ih =>
      intro k d1 hk hd hs h10 h9
      refine m_iload_n (pc' := 9) dX11_carries_8 rfl rfl ?_
      refine m_aload_n (pc' := 10) dX11_carries_9 rfl rfl ?_
      refine m_getR (pc' := 13) fa_X11_carries_7 dX11_carries_10 (by decide) rfl rfl rfl rfl ?_
      refine m_bipush (pc' := 15) (v := 43) dX11_carries_13 (by decide) rfl ?_
      refine m_ialdN (pc' := 16) (j := 43) (L := 408) dX11_carries_15 (by decide) rfl rfl (rfl) (by decide) (by decide) rfl ?_
      rw [show (d1.1 215 43) = (s 43) from congrFun hs 43]
      refine m_icmp_ge (tgt := 49) (pc' := 19) dX11_carries_16 (by decide) rfl (fun h16 => absurd h16 (by rw [hl.2.1]; exact nI_ge (by omega) (by omega))) (fun h16 => ?_)
      refine m_aload_n (pc' := 20) dX11_carries_19 rfl rfl ?_
      refine m_aload_n (pc' := 21) dX11_carries_20 rfl rfl ?_
      refine m_iload_n (pc' := 22) dX11_carries_21 rfl rfl ?_
      refine m_callV (pc' := 25) (A := [.int (nI k)]) (rest := [.ref 214]) (b := 214) cl_X11_carries_89 dX11_carries_22 rfl rfl (Nat.le_of_ble_eq_true rfl) ⟨by decide, by decide⟩ (by decide) rfl rfl rfl rfl ?_
      refine c_mplace (i := k) (s := s) hs (by omega) ?_
      show mM G mX11_carries 25 [some (.ref 214), some (.int (esm s t0 h0 k)), some (.int (nI k))] [.int (s (44 + 2 * k)), .ref 214] S1 d1 (0, 0) Q
      rw [show (s (44 + 2 * k)) = (nI (pn s k)) from (okL_p hl (show k < n by omega)).1]
      refine m_aload_n (pc' := 26) dX11_carries_25 rfl rfl ?_
      refine m_iload_n (pc' := 27) dX11_carries_26 rfl rfl ?_
      refine m_callV (pc' := 30) (A := [.int (nI k)]) (rest := [.int (nI (pn s k)), .ref 214]) (b := 214) cl_X11_carries_93 dX11_carries_27 rfl rfl (Nat.le_of_ble_eq_true rfl) ⟨by decide, by decide⟩ (by decide) rfl rfl rfl rfl ?_
      refine c_msettle (i := k) (s := s) hs (by omega) ?_
      show mM G mX11_carries 30 [some (.ref 214), some (.int (esm s t0 h0 k)), some (.int (nI k))] [.int (s (45 + 2 * k)), .int (nI (pn s k)), .ref 214] S1 d1 (0, 0) Q
      rw [show (s (45 + 2 * k)) = (nI (qn s k)) from (okL_q hl (show k < n by omega)).1]
      refine m_callV (pc' := 33) (A := [.int (nI (pn s k)), .int (nI (qn s k))]) (rest := []) (b := 214) cl_X11_carries_96 dX11_carries_30 rfl rfl (Nat.le_of_ble_eq_true rfl) ⟨by decide, by decide⟩ (by decide) rfl rfl rfl rfl ?_
      refine c_mcarry (p := (pn s k)) (q := (qn s k)) (t := (et s t0 k)) (h := (eh s t0 h0 k)) (s := s) hs (pok_of hc (okL_p hl (show k < n by omega)).2) (okL_q hl (show k < n by omega)).2 (by have := et_le (t0 := t0) hl k (by omega); have := hl.1; omega) h10 h9 (fun d2 g0 g10 g9 g11 g12 g13 => ?_)
      show mM G mX11_carries 33 [some (.ref 214), some (.int (esm s t0 h0 k)), some (.int (nI k))] [] S1 d2 (0, 0) Q
      refine m_iload_n (pc' := 34) dX11_carries_33 rfl rfl ?_
      refine m_aload_n (pc' := 35) dX11_carries_34 rfl rfl ?_
      refine m_getI (pc' := 38) fa_X11_carries_80 dX11_carries_35 (by decide) rfl rfl rfl ?_
      rw [show (d2.1 214 12) = (ec s t0 h0 k) from g12]
      refine m_callS (pc' := 41) (A := [.int (ec s t0 h0 k)]) (rest := [.int (esm s t0 h0 k)]) cl_X11_carries_100 dX11_carries_38 rfl rfl (Nat.le_of_ble_eq_true rfl) ⟨by decide, by decide⟩ rfl rfl ?_
      refine c_size ?_
      show mM G mX11_carries 41 [some (.ref 214), some (.int (esm s t0 h0 k)), some (.int (nI k))] [.int (siz (ec s t0 h0 k)), .int (esm s t0 h0 k)] S1 d2 (0, 0) Q
      refine m_iadd (pc' := 42) dX11_carries_41 rfl ?_
      refine m_istore_n (pc' := 43) dX11_carries_42 (by decide) rfl rfl ?_
      refine m_iinc (pc' := 46) dX11_carries_43 rfl (by decide) (v := nI (k + 1)) (nI_1 k) rfl rfl ?_
      refine m_goto (tgt := 8) dX11_carries_46 (by decide) ?_
      exact ih (k + 1) d2 (by omega) (hd.trans g0) (g0.s hs) g10 g9
  refine mC_of (by decide +kernel) ⟨_, rfl⟩ (Nat.le_of_ble_eq_true rfl) ?_
  show mM G mX11_carries 0 [some (.ref 214), none, none] [] S1 d (0, 0) Q
  refine m_aload_n (pc' := 1) dX11_carries_0 rfl rfl ?_
  refine m_callV (pc' := 4) (A := []) (rest := []) (b := 214) cl_X11_carries_86 dX11_carries_1 rfl rfl (Nat.le_of_ble_eq_true rfl) ⟨by decide, by decide⟩ (by decide) rfl rfl rfl rfl ?_
  refine c_mbegin (s := s) hs (fun b b0 b10 b9 => ?_)
  show mM G mX11_carries 4 [some (.ref 214), none, none] [] S1 b (0, 0) Q
  refine m_iconst (pc' := 5) (v := 0) dX11_carries_4 (by decide) rfl ?_
  refine m_istore_n (pc' := 6) dX11_carries_5 (by decide) rfl rfl ?_
  refine m_iconst (pc' := 7) (v := 0) dX11_carries_6 (by decide) rfl ?_
  refine m_istore_n (pc' := 8) dX11_carries_7 (by decide) rfl rfl ?_
  exact J n 0 b (by omega) b0 (b0.s hs) (b10.trans ht) (b9.trans h6)
end MOD2
