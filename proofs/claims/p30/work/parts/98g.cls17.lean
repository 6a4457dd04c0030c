/-! THE CLASS'S OWN METHODS (9): lists tried -/
section CLS17
variable {G : GP} {Q : Option Value → Sh → Dt → Prop} {d : Dt} {a : Nat} {s : SS}
theorem siz_abs (c : Int32) : (if 0 ≤ c then c else 0 - c) = siz c := by
  unfold siz
  by_cases h : c < 0
  · rw [if_pos h, if_neg (Int32.not_le.mpr h), Int32.zero_sub]
  · rw [if_neg h, if_pos (Int32.not_lt.mp h)]
set_option maxHeartbeats 4000000 in
set_option maxRecDepth 100000 in
theorem c_try {n m t0 : Nat} {h : UInt32} {sA : SS} (hT : TR d 1 sA h) (h76 : sA 76 = sA 88 + sA 89 + sA 90 + sA 91) (ht : sA 76 = nI t0) (ht0 : t0 ≤ 9999) (hB : a ∈ suL) (hS : SR d a s) (hl : okL s n) (hc : ∀ c, c < 8 → okC s c) (hm : m ≤ n) (hQ : ∀ d', fr cvE cvF d d' → SR d' a s → d'.1 189 1 = nI (et s t0 m) → d'.2 189 0 = eh s t0 h m → (0 < m → d'.1 189 2 = er s t0 h (m - 1) ∧ d'.1 189 3 = ec s t0 h (m - 1) ∧ d'.1 189 4 = pvl s (pn s (m - 1)) (nI (et s t0 (m - 1) + qn s (m - 1)))) → Q (some (.int (esm s t0 h m))) S1 d') : mC G mX10_tryEntries [.ref 0, .ref a, .int (nI m)] S1 d Q := by
  have hn16 := hl.1
  have J : ∀ (n0 : Nat) (i : Nat) (d1 : Dt) (_ : i + n0 = m) (_ : fr cvE cvF d d1) (_ : SR d1 a s) (_ : d1.1 189 1 = nI (et s t0 i)) (_ : d1.2 189 0 = eh s t0 h i) (_ : 0 < i → d1.1 189 2 = er s t0 h (i - 1) ∧ d1.1 189 3 = ec s t0 h (i - 1) ∧ d1.1 189 4 = pvl s (pn s (i - 1)) (nI (et s t0 (i - 1) + qn s (i - 1)))), mM G mX10_tryEntries 26 [some (.ref 0), some (.ref a), some (.int (nI m)), some (.int (esm s t0 h i)), some (.int (nI i))] [] S1 d1 (0, 0) Q := by
    intro n0
    induction n0 with
    | zero =>
      intro i d1 hk hd hS h1 h0 hr
      refine m_iload (pc' := 28) dX10_tryEntries_26 rfl rfl ?_
      refine m_iload_n (pc' := 29) dX10_tryEntries_28 rfl rfl ?_
      refine m_icmp_ge (tgt := 61) (pc' := 32) dX10_tryEntries_29 (by decide) rfl (fun h29 => ?_) (fun h29 => (h29 (nI_le (by omega) (by omega))).elim)
      refine m_iload_n (pc' := 62) dX10_tryEntries_61 rfl rfl ?_
      refine m_iret dX10_tryEntries_62 rfl rfl ⟨by decide, by decide⟩ ?_
      obtain rfl : i = m := by omega
      exact hQ d1 hd hS h1 h0 hr
    | succ n0 ih =>
      intro i d1 hk hd hS h1 h0 hr
      refine m_iload (pc' := 28) dX10_tryEntries_26 rfl rfl ?_
      refine m_iload_n (pc' := 29) dX10_tryEntries_28 rfl rfl ?_
      refine m_icmp_ge (tgt := 61) (pc' := 32) dX10_tryEntries_29 (by decide) rfl (fun h29 => absurd h29 (nI_ge (by omega) (by omega))) (fun h29 => ?_)
      refine m_aload_n (pc' := 33) dX10_tryEntries_32 rfl rfl ?_
      refine m_getR (pc' := 36) fa_X10_tryEntries_26 dX10_tryEntries_33 (by decide) rfl rfl rfl rfl ?_
      refine m_aload_n (pc' := 37) dX10_tryEntries_36 rfl rfl ?_
      refine m_iload (pc' := 39) dX10_tryEntries_37 rfl rfl ?_
      refine m_callV (pc' := 42) (A := [.ref a, .int (nI i)]) (rest := []) (b := 189) cl_X10_tryEntries_266 dX10_tryEntries_39 rfl rfl (Nat.le_of_ble_eq_true rfl) ⟨by decide, by decide⟩ (by decide) rfl rfl rfl rfl ?_
      refine c_entry (n := n) (i := i) (t := et s t0 i) (h := eh s t0 h i) (s := s) hB hS hl (by omega) hc (by have := et_le (t0 := t0) hl i (by omega); omega) h1 h0 (fun e e0 eS e1 e9 e2 e3 e4 => ?_)
      show mM G mX10_tryEntries 42 [some (.ref 0), some (.ref a), some (.int (nI m)), some (.int (esm s t0 h i)), some (.int (nI i))] [] S1 e (0, 0) Q
      refine m_iload_n (pc' := 43) dX10_tryEntries_42 rfl rfl ?_
      refine m_aload_n (pc' := 44) dX10_tryEntries_43 rfl rfl ?_
      refine m_getR (pc' := 47) fa_X10_tryEntries_26 dX10_tryEntries_44 (by decide) rfl rfl rfl rfl ?_
      refine m_getI (pc' := 50) fa_X10_tryEntries_241 dX10_tryEntries_47 (by decide) rfl rfl rfl ?_
      rw [show (e.1 189 3) = (ec s t0 h i) from e3]
      refine m_mabs (pc' := 53) wm_X10_tryEntries_261 dX10_tryEntries_50 (Nat.le_of_ble_eq_true rfl) ⟨by decide, by decide⟩ rfl ?_
      rw [show (if 0 ≤ (ec s t0 h i) then (ec s t0 h i) else 0 - (ec s t0 h i)) = (siz (ec s t0 h i)) from siz_abs _]
      refine m_iadd (pc' := 54) dX10_tryEntries_53 rfl ?_
      refine m_istore_n (pc' := 55) dX10_tryEntries_54 (by decide) rfl rfl ?_
      refine m_iinc (pc' := 58) dX10_tryEntries_55 rfl (by decide) (v := nI (i + 1)) (nI_1 i) rfl rfl ?_
      refine m_goto (tgt := 26) dX10_tryEntries_58 (by decide) ?_
      exact ih (i + 1) e (by omega) (hd.trans e0) eS e1 e9 (fun _ => ⟨e2, e3, e4⟩)
  refine mC_of (by decide +kernel) ⟨_, rfl⟩ (Nat.le_of_ble_eq_true rfl) ?_
  show mM G mX10_tryEntries 0 [some (.ref 0), some (.ref a), some (.int (nI m)), none, none] [] S1 d (0, 0) Q
  refine m_iconst (pc' := 1) (v := 0) dX10_tryEntries_0 (by decide) rfl ?_
  refine m_istore_n (pc' := 2) dX10_tryEntries_1 (by decide) rfl rfl ?_
  refine m_aload_n (pc' := 3) dX10_tryEntries_2 rfl rfl ?_
  refine m_getR (pc' := 6) fa_X10_tryEntries_26 dX10_tryEntries_3 (by decide) rfl rfl rfl rfl ?_
  refine m_aload_n (pc' := 7) dX10_tryEntries_6 rfl rfl ?_
  refine m_getR (pc' := 10) fa_X10_tryEntries_10 dX10_tryEntries_7 (by decide) rfl rfl rfl rfl ?_
  refine m_getF (pc' := 13) fa_X10_tryEntries_136 dX10_tryEntries_10 (by decide) rfl rfl rfl ?_
  rw [show (d.2 1 6) = h from hT.2.2.2.2.2.2]
  refine m_aload_n (pc' := 14) dX10_tryEntries_13 rfl rfl ?_
  refine m_getR (pc' := 17) fa_X10_tryEntries_10 dX10_tryEntries_14 (by decide) rfl rfl rfl rfl ?_
  refine m_callV (pc' := 20) (A := []) (rest := [.float h, .ref 189]) (b := 1) cl_X10_tryEntries_121 dX10_tryEntries_17 rfl rfl (Nat.le_of_ble_eq_true rfl) ⟨by decide, by decide⟩ (by decide) rfl rfl rfl rfl ?_
  refine c_time hT h76 ?_
  show mM G mX10_tryEntries 20 [some (.ref 0), some (.ref a), some (.int (nI m)), some (.int 0), none] [.int (sA 76), .float h, .ref 189] S1 d (0, 0) Q
  refine m_callV (pc' := 23) (A := [.float h, .int (sA 76)]) (rest := []) (b := 189) cl_X10_tryEntries_140 dX10_tryEntries_20 rfl rfl (Nat.le_of_ble_eq_true rfl) ⟨by decide, by decide⟩ (by decide) rfl rfl rfl rfl ?_
  refine c_start (fun b b0 b1 b9 => ?_)
  show mM G mX10_tryEntries 23 [some (.ref 0), some (.ref a), some (.int (nI m)), some (.int 0), none] [] S1 b (0, 0) Q
  refine m_iconst (pc' := 24) (v := 0) dX10_tryEntries_23 (by decide) rfl ?_
  refine m_istore (pc' := 26) dX10_tryEntries_24 (by decide) rfl rfl ?_
  exact J m 0 b (by omega) b0 (hS.cv hB b0) (b1.trans ht) b9 (fun q => absurd q (Nat.lt_irrefl 0))
end CLS17
