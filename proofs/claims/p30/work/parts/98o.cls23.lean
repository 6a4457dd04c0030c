/-! THE CLASS'S OWN METHODS (11): orders -/
section CLS23
variable {G : GP} {Q : Option Value → Sh → Dt → Prop} {d : Dt} {a : Nat} {s : SS}
set_option maxHeartbeats 4000000 in
set_option maxRecDepth 100000 in
theorem c_key0 {n i t0 : Nat} (hB : a ∈ suL) (hS : SR d a s) (hl : okL s n) (hi : i < n) (hc : ∀ c, c < 8 → okC s c) (h76 : s 76 = nI t0) (ht : t0 < 100000) (hQ : Q (some (.int (kyc s 0 i))) S1 d) : mC G mX5_keyOf [.ref a, .int (nI i), .int 0, .int (nI t0)] S1 d Q := by
  have hn16 := hl.1
  have hp := (okL_p hl hi).2
  refine mC_of (by decide +kernel) ⟨_, rfl⟩ (Nat.le_of_ble_eq_true rfl) ?_
  show mM G mX5_keyOf 0 [some (.ref a), some (.int (nI i)), some (.int 0), some (.int (nI t0)), none] [] S1 d (0, 0) Q
  refine m_aload_n (pc' := 1) dX5_keyOf_0 rfl rfl ?_
  refine m_getR (pc' := 4) fa_X5_keyOf_39 dX5_keyOf_1 (su_lt0 hB) (su_k0 hB) rfl (su_r0_1 hB) rfl ?_
  refine m_iload_n (pc' := 5) dX5_keyOf_4 rfl rfl ?_
  refine m_iconst (pc' := 6) (v := 0) dX5_keyOf_5 (by decide) rfl ?_
  refine m_callV (pc' := 9) (A := [.int (nI i), .int 0]) (rest := []) (b := a + 3) cl_X5_keyOf_46 dX5_keyOf_6 rfl rfl (Nat.le_of_ble_eq_true rfl) ⟨by decide, by decide⟩ (su_lt3 hB) (su_k3 hB) rfl rfl rfl ?_
  refine c_atN (t := (a + 3)) (W := 2) (L := 32) (a := i) (b := 0) (k := 2 * i) (su_T3 hB) (by decide) (by omega) (by omega) ?_
  show mM G mX5_keyOf 9 [some (.ref a), some (.int (nI i)), some (.int 0), some (.int (nI t0)), none] [.int (d.1 (a + 3 + 1) (2 * i))] S1 d (0, 0) Q
  rw [show (d.1 (a + 3 + 1) (2 * i)) = (nI (pn s i)) from (hS.2.1 (2 * i) (by omega)).trans (okL_p hl hi).1]
  refine m_istore (pc' := 11) dX5_keyOf_9 (by decide) rfl rfl ?_
  refine m_iload_n (pc' := 12) dX5_keyOf_11 rfl rfl ?_
  refine m_tableIn (tgt := 40) (off := 28) dX5_keyOf_12 (by decide) (by decide) rfl (by decide) ?_
  refine m_iload (pc' := 42) dX5_keyOf_40 rfl rfl ?_
  refine m_iret dX5_keyOf_42 rfl rfl ⟨by decide, by decide⟩ ?_
  exact q_i hQ (Eq.symm (by unfold kyc kyl; rw [if_neg (by decide), if_pos (show nI 0 = (0 : Int32) from rfl), (okL_p hl hi).1]))
set_option maxHeartbeats 4000000 in
set_option maxRecDepth 100000 in
theorem c_key1 {n i t0 : Nat} (hB : a ∈ suL) (hS : SR d a s) (hl : okL s n) (hi : i < n) (hc : ∀ c, c < 8 → okC s c) (h76 : s 76 = nI t0) (ht : t0 < 100000) (hQ : Q (some (.int (kyc s 1 i))) S1 d) : mC G mX5_keyOf [.ref a, .int (nI i), .int 1, .int (nI t0)] S1 d Q := by
  have hn16 := hl.1
  have hp := (okL_p hl hi).2
  refine mC_of (by decide +kernel) ⟨_, rfl⟩ (Nat.le_of_ble_eq_true rfl) ?_
  show mM G mX5_keyOf 0 [some (.ref a), some (.int (nI i)), some (.int 1), some (.int (nI t0)), none] [] S1 d (0, 0) Q
  refine m_aload_n (pc' := 1) dX5_keyOf_0 rfl rfl ?_
  refine m_getR (pc' := 4) fa_X5_keyOf_39 dX5_keyOf_1 (su_lt0 hB) (su_k0 hB) rfl (su_r0_1 hB) rfl ?_
  refine m_iload_n (pc' := 5) dX5_keyOf_4 rfl rfl ?_
  refine m_iconst (pc' := 6) (v := 0) dX5_keyOf_5 (by decide) rfl ?_
  refine m_callV (pc' := 9) (A := [.int (nI i), .int 0]) (rest := []) (b := a + 3) cl_X5_keyOf_46 dX5_keyOf_6 rfl rfl (Nat.le_of_ble_eq_true rfl) ⟨by decide, by decide⟩ (su_lt3 hB) (su_k3 hB) rfl rfl rfl ?_
  refine c_atN (t := (a + 3)) (W := 2) (L := 32) (a := i) (b := 0) (k := 2 * i) (su_T3 hB) (by decide) (by omega) (by omega) ?_
  show mM G mX5_keyOf 9 [some (.ref a), some (.int (nI i)), some (.int 1), some (.int (nI t0)), none] [.int (d.1 (a + 3 + 1) (2 * i))] S1 d (0, 0) Q
  rw [show (d.1 (a + 3 + 1) (2 * i)) = (nI (pn s i)) from (hS.2.1 (2 * i) (by omega)).trans (okL_p hl hi).1]
  refine m_istore (pc' := 11) dX5_keyOf_9 (by decide) rfl rfl ?_
  refine m_iload_n (pc' := 12) dX5_keyOf_11 rfl rfl ?_
  refine m_tableIn (tgt := 43) (off := 31) dX5_keyOf_12 (by decide) (by decide) rfl (by decide) ?_
  refine m_aload_n (pc' := 44) dX5_keyOf_43 rfl rfl ?_
  refine m_iload (pc' := 46) dX5_keyOf_44 rfl rfl ?_
  refine m_callV (pc' := 49) (A := [.int (nI (pn s i))]) (rest := []) (b := a) cl_X5_keyOf_57 dX5_keyOf_46 rfl rfl (Nat.le_of_ble_eq_true rfl) ⟨by decide, by decide⟩ (su_lt0 hB) (su_k0 hB) rfl rfl rfl ?_
  refine c_resAt (p := pn s i) (s := s) hB hS hp ?_
  show mM G mX5_keyOf 49 [some (.ref a), some (.int (nI i)), some (.int 1), some (.int (nI t0)), some (.int (nI (pn s i)))] [.int (rsl s (pn s i))] S1 d (0, 0) Q
  refine m_iret dX5_keyOf_49 rfl rfl ⟨by decide, by decide⟩ ?_
  exact q_i hQ (Eq.symm (by unfold kyc kyl; rw [if_neg (by decide), if_neg (by decide), if_pos (show nI 1 = (1 : Int32) from rfl)]))
set_option maxHeartbeats 4000000 in
set_option maxRecDepth 100000 in
theorem c_key2 {n i t0 : Nat} (hB : a ∈ suL) (hS : SR d a s) (hl : okL s n) (hi : i < n) (hc : ∀ c, c < 8 → okC s c) (h76 : s 76 = nI t0) (ht : t0 < 100000) (hQ : Q (some (.int (kyc s 2 i))) S1 d) : mC G mX5_keyOf [.ref a, .int (nI i), .int 2, .int (nI t0)] S1 d Q := by
  have hn16 := hl.1
  have hp := (okL_p hl hi).2
  refine mC_of (by decide +kernel) ⟨_, rfl⟩ (Nat.le_of_ble_eq_true rfl) ?_
  show mM G mX5_keyOf 0 [some (.ref a), some (.int (nI i)), some (.int 2), some (.int (nI t0)), none] [] S1 d (0, 0) Q
  refine m_aload_n (pc' := 1) dX5_keyOf_0 rfl rfl ?_
  refine m_getR (pc' := 4) fa_X5_keyOf_39 dX5_keyOf_1 (su_lt0 hB) (su_k0 hB) rfl (su_r0_1 hB) rfl ?_
  refine m_iload_n (pc' := 5) dX5_keyOf_4 rfl rfl ?_
  refine m_iconst (pc' := 6) (v := 0) dX5_keyOf_5 (by decide) rfl ?_
  refine m_callV (pc' := 9) (A := [.int (nI i), .int 0]) (rest := []) (b := a + 3) cl_X5_keyOf_46 dX5_keyOf_6 rfl rfl (Nat.le_of_ble_eq_true rfl) ⟨by decide, by decide⟩ (su_lt3 hB) (su_k3 hB) rfl rfl rfl ?_
  refine c_atN (t := (a + 3)) (W := 2) (L := 32) (a := i) (b := 0) (k := 2 * i) (su_T3 hB) (by decide) (by omega) (by omega) ?_
  show mM G mX5_keyOf 9 [some (.ref a), some (.int (nI i)), some (.int 2), some (.int (nI t0)), none] [.int (d.1 (a + 3 + 1) (2 * i))] S1 d (0, 0) Q
  rw [show (d.1 (a + 3 + 1) (2 * i)) = (nI (pn s i)) from (hS.2.1 (2 * i) (by omega)).trans (okL_p hl hi).1]
  refine m_istore (pc' := 11) dX5_keyOf_9 (by decide) rfl rfl ?_
  refine m_iload_n (pc' := 12) dX5_keyOf_11 rfl rfl ?_
  refine m_tableIn (tgt := 50) (off := 38) dX5_keyOf_12 (by decide) (by decide) rfl (by decide) ?_
  refine m_aload_n (pc' := 51) dX5_keyOf_50 rfl rfl ?_
  refine m_iload (pc' := 53) dX5_keyOf_51 rfl rfl ?_
  refine m_iload_n (pc' := 54) dX5_keyOf_53 rfl rfl ?_
  refine m_callV (pc' := 57) (A := [.int (nI (pn s i)), .int (nI t0)]) (rest := []) (b := a) cl_X5_keyOf_61 dX5_keyOf_54 rfl rfl (Nat.le_of_ble_eq_true rfl) ⟨by decide, by decide⟩ (su_lt0 hB) (su_k0 hB) rfl rfl rfl ?_
  refine c_valueAt (p := pn s i) (t := t0) (s := s) hB hS hp hc ht ?_
  show mM G mX5_keyOf 57 [some (.ref a), some (.int (nI i)), some (.int 2), some (.int (nI t0)), some (.int (nI (pn s i)))] [.int (pvl s (pn s i) (nI t0))] S1 d (0, 0) Q
  refine m_iret dX5_keyOf_57 rfl rfl ⟨by decide, by decide⟩ ?_
  exact q_i hQ (Eq.symm (by unfold kyc kyl; rw [if_neg (by decide), if_neg (by decide), if_neg (by decide), h76]))
set_option maxHeartbeats 4000000 in
set_option maxRecDepth 100000 in
theorem c_key3 {n i t0 : Nat} (hB : a ∈ suL) (hS : SR d a s) (hl : okL s n) (hi : i < n) (hc : ∀ c, c < 8 → okC s c) (h76 : s 76 = nI t0) (ht : t0 < 100000) (hQ : Q (some (.int (kyc s 3 i))) S1 d) : mC G mX5_keyOf [.ref a, .int (nI i), .int 3, .int (nI t0)] S1 d Q := by
  have hn16 := hl.1
  have hp := (okL_p hl hi).2
  refine mC_of (by decide +kernel) ⟨_, rfl⟩ (Nat.le_of_ble_eq_true rfl) ?_
  show mM G mX5_keyOf 0 [some (.ref a), some (.int (nI i)), some (.int 3), some (.int (nI t0)), none] [] S1 d (0, 0) Q
  refine m_aload_n (pc' := 1) dX5_keyOf_0 rfl rfl ?_
  refine m_getR (pc' := 4) fa_X5_keyOf_39 dX5_keyOf_1 (su_lt0 hB) (su_k0 hB) rfl (su_r0_1 hB) rfl ?_
  refine m_iload_n (pc' := 5) dX5_keyOf_4 rfl rfl ?_
  refine m_iconst (pc' := 6) (v := 0) dX5_keyOf_5 (by decide) rfl ?_
  refine m_callV (pc' := 9) (A := [.int (nI i), .int 0]) (rest := []) (b := a + 3) cl_X5_keyOf_46 dX5_keyOf_6 rfl rfl (Nat.le_of_ble_eq_true rfl) ⟨by decide, by decide⟩ (su_lt3 hB) (su_k3 hB) rfl rfl rfl ?_
  refine c_atN (t := (a + 3)) (W := 2) (L := 32) (a := i) (b := 0) (k := 2 * i) (su_T3 hB) (by decide) (by omega) (by omega) ?_
  show mM G mX5_keyOf 9 [some (.ref a), some (.int (nI i)), some (.int 3), some (.int (nI t0)), none] [.int (d.1 (a + 3 + 1) (2 * i))] S1 d (0, 0) Q
  rw [show (d.1 (a + 3 + 1) (2 * i)) = (nI (pn s i)) from (hS.2.1 (2 * i) (by omega)).trans (okL_p hl hi).1]
  refine m_istore (pc' := 11) dX5_keyOf_9 (by decide) rfl rfl ?_
  refine m_iload_n (pc' := 12) dX5_keyOf_11 rfl rfl ?_
  refine m_tableOut (tgt := 58) dX5_keyOf_12 (by decide) (by decide) ?_
  refine m_iload_n (pc' := 59) dX5_keyOf_58 rfl rfl ?_
  refine m_ineg (pc' := 60) dX5_keyOf_59 rfl ?_
  refine m_iret dX5_keyOf_60 rfl rfl ⟨by decide, by decide⟩ ?_
  exact q_i hQ (Eq.symm (by unfold kyc; rw [if_pos rfl]))
theorem c_keyOf {n i r t0 : Nat} (hB : a ∈ suL) (hS : SR d a s) (hl : okL s n) (hi : i < n) (hc : ∀ c, c < 8 → okC s c) (h76 : s 76 = nI t0) (ht : t0 < 100000) (hr : r ≤ 3) (hQ : Q (some (.int (kyc s r i))) S1 d) : mC G mX5_keyOf [.ref a, .int (nI i), .int (nI r), .int (nI t0)] S1 d Q := by
  rcases (show r = 0 ∨ r = 1 ∨ r = 2 ∨ r = 3 by omega) with rfl | rfl | rfl | rfl
  · exact c_key0 hB hS hl hi hc h76 ht hQ
  · exact c_key1 hB hS hl hi hc h76 ht hQ
  · exact c_key2 hB hS hl hi hc h76 ht hQ
  · exact c_key3 hB hS hl hi hc h76 ht hQ
set_option maxHeartbeats 4000000 in
set_option maxRecDepth 100000 in
theorem c_sortIn {e : Nat} {key : Nat → Int32} (he : e < 16) (hK : KO d key (srt key e) e) (hQ : ∀ d', fr soE nE d d' → KO d' key (srt key (e + 1)) (e + 1) → Q none S1 d') : mC G mX5_sortIn [.ref 190, .int (nI e), .int (key e)] S1 d Q := by
  have K : ∀ (p : Nat) (d1 : Dt) (_ : p ≤ e) (_ : fr soE nE d d1) (_ : ∀ i, i < p → d1.1 192 i = key ((srt key e) i) ∧ d1.1 194 i = nI ((srt key e) i)) (_ : ∀ i, p < i → i ≤ e → d1.1 192 i = key ((srt key e) (i - 1)) ∧ d1.1 194 i = nI ((srt key e) (i - 1))) (_ : pos (srt key e) key (key e) e = p), mM G mX5_sortIn 49 [some (.ref 190), some (.int (nI e)), some (.int (key e)), some (.int (nI p))] [] S1 d1 (0, 0) Q := by
    intro p d1 hpe hd g1 g2 gp
    refine m_aload_n (pc' := 50) dX5_sortIn_49 rfl rfl ?_
    refine m_getR (pc' := 53) fa_X5_sortIn_14 dX5_sortIn_50 (by decide) rfl rfl rfl rfl ?_
    refine m_iload_n (pc' := 54) dX5_sortIn_53 rfl rfl ?_
    refine m_iconst (pc' := 55) (v := 0) dX5_sortIn_54 (by decide) rfl ?_
    refine m_iload_n (pc' := 56) dX5_sortIn_55 rfl rfl ?_
    refine m_callV (pc' := 59) (A := [.int (nI p), .int 0, .int (key e)]) (rest := []) (b := 191) cl_X5_sortIn_50 dX5_sortIn_56 rfl rfl (Nat.le_of_ble_eq_true rfl) ⟨by decide, by decide⟩ (by decide) rfl rfl rfl rfl ?_
    refine c_putN (t := 191) (W := 1) (L := 16) (a := p) (b := 0) (k := p) (isT_lit (by decide +kernel)) (by decide) (by omega) (by omega) ?_
    show mM G mX5_sortIn 59 [some (.ref 190), some (.int (nI e)), some (.int (key e)), some (.int (nI p))] [] S1 (u2 d1.1 192 p (key e), d1.2) (0, 0) Q
    refine m_aload_n (pc' := 60) dX5_sortIn_59 rfl rfl ?_
    refine m_getR (pc' := 63) fa_X5_sortIn_20 dX5_sortIn_60 (by decide) rfl rfl rfl rfl ?_
    refine m_iload_n (pc' := 64) dX5_sortIn_63 rfl rfl ?_
    refine m_iconst (pc' := 65) (v := 0) dX5_sortIn_64 (by decide) rfl ?_
    refine m_iload_n (pc' := 66) dX5_sortIn_65 rfl rfl ?_
    refine m_callV (pc' := 69) (A := [.int (nI p), .int 0, .int (nI e)]) (rest := []) (b := 193) cl_X5_sortIn_50 dX5_sortIn_66 rfl rfl (Nat.le_of_ble_eq_true rfl) ⟨by decide, by decide⟩ (by decide) rfl rfl rfl rfl ?_
    refine c_putN (t := 193) (W := 1) (L := 16) (a := p) (b := 0) (k := p) (isT_lit (by decide +kernel)) (by decide) (by omega) (by omega) ?_
    show mM G mX5_sortIn 69 [some (.ref 190), some (.int (nI e)), some (.int (key e)), some (.int (nI p))] [] S1 (u2 (u2 d1.1 192 p (key e)) 194 p (nI e), d1.2) (0, 0) Q
    refine m_vret dX5_sortIn_69 rfl ⟨by decide, by decide⟩ ?_
    refine hQ _ ((hd.i _ (Or.inl rfl)).i _ (Or.inr rfl)) (fun i hi => ?_)
    have k1 : (u2 (u2 d1.1 192 p (key e)) 194 p (nI e)) 192 i = (u2 d1.1 192 p (key e)) 192 i := congrFun (u2_ne (show 192 ≠ 194 by decide)) i
    have k2 : ∀ x, (u2 d1.1 192 p x) 194 i = d1.1 194 i := fun x => congrFun (u2_ne (show 194 ≠ 192 by decide)) i
    show (u2 (u2 d1.1 192 p (key e)) 194 p (nI e)) 192 i = key (inso (srt key e) e (pos (srt key e) key (key e) e) i) ∧ (u2 (u2 d1.1 192 p (key e)) 194 p (nI e)) 194 i = nI (inso (srt key e) e (pos (srt key e) key (key e) e) i)
    rw [gp, k1]
    unfold inso
    by_cases c1 : i = p
    · subst c1; rw [if_neg (Nat.lt_irrefl _), if_pos rfl]; exact ⟨u2_same, u2_same⟩
    · rw [u2_oth c1, u2_oth c1, k2]
      by_cases c2 : i < p
      · rw [if_pos c2]; exact g1 i c2
      · rw [if_neg c2, if_neg c1, if_pos (by omega)]; exact g2 i (by omega) (by omega)
  have J : ∀ (n0 : Nat) (p : Nat) (d1 : Dt) (_ : p ≤ n0) (_ : p ≤ e) (_ : fr soE nE d d1) (_ : ∀ i, i < p → d1.1 192 i = key ((srt key e) i) ∧ d1.1 194 i = nI ((srt key e) i)) (_ : ∀ i, p < i → i ≤ e → d1.1 192 i = key ((srt key e) (i - 1)) ∧ d1.1 194 i = nI ((srt key e) (i - 1))) (_ : pos (srt key e) key (key e) e = pos (srt key e) key (key e) p), mM G mX5_sortIn 2 [some (.ref 190), some (.int (nI e)), some (.int (key e)), some (.int (nI p))] [] S1 d1 (0, 0) Q := by
    intro n0
    induction n0 with
    | zero =>
      intro p d1 hk hpe hd g1 g2 gp
      refine m_iload_n (pc' := 3) dX5_sortIn_2 rfl rfl ?_
      refine m_if_le (tgt := 49) (pc' := 6) dX5_sortIn_3 (by decide) rfl (fun h3 => ?_) (fun h3 => (h3 (by rw [show p = 0 by omega]; exact Int32.le_refl _)).elim)
      obtain rfl := nI_zero (by omega) h3
      exact K 0 d1 hpe hd g1 g2 gp
    | succ n0 ih =>
      intro p d1 hk hpe hd g1 g2 gp
      refine m_iload_n (pc' := 3) dX5_sortIn_2 rfl rfl ?_
      refine m_if_le (tgt := 49) (pc' := 6) dX5_sortIn_3 (by decide) rfl (fun h3 => ?_) (fun h3 => ?_)
      · skip
        obtain rfl := nI_zero (by omega) h3
        exact K 0 d1 hpe hd g1 g2 gp
      · skip
        refine m_aload_n (pc' := 7) dX5_sortIn_6 rfl rfl ?_
        refine m_getR (pc' := 10) fa_X5_sortIn_14 dX5_sortIn_7 (by decide) rfl rfl rfl rfl ?_
        refine m_iload_n (pc' := 11) dX5_sortIn_10 rfl rfl ?_
        refine m_iconst (pc' := 12) (v := 1) dX5_sortIn_11 (by decide) rfl ?_
        refine m_isub (pc' := 13) dX5_sortIn_12 rfl ?_
        rw [show ((nI p) - 1) = (nI (p - 1)) from pk_dif (b := 1) (nI_ps (by omega) h3)]
        refine m_iconst (pc' := 14) (v := 0) dX5_sortIn_13 (by decide) rfl ?_
        refine m_callV (pc' := 17) (A := [.int (nI (p - 1)), .int 0]) (rest := []) (b := 191) cl_X5_sortIn_46 dX5_sortIn_14 rfl rfl (Nat.le_of_ble_eq_true rfl) ⟨by decide, by decide⟩ (by decide) rfl rfl rfl rfl ?_
        refine c_atN (t := 191) (W := 1) (L := 16) (a := (p - 1)) (b := 0) (k := p - 1) (isT_lit (by decide +kernel)) (by decide) (by omega) (by have := nI_ps (by omega) h3; omega) ?_
        show mM G mX5_sortIn 17 [some (.ref 190), some (.int (nI e)), some (.int (key e)), some (.int (nI p))] [.int (d1.1 192 (p - 1))] S1 d1 (0, 0) Q
        rw [show (d1.1 192 (p - 1)) = (key ((srt key e) (p - 1))) from (g1 (p - 1) (by have := nI_ps (by omega) h3; omega)).1]
        refine m_iload_n (pc' := 18) dX5_sortIn_17 rfl rfl ?_
        refine m_icmp_le (tgt := 49) (pc' := 21) dX5_sortIn_18 (by decide) rfl (fun h18 => ?_) (fun h18 => ?_)
        · skip
          exact K p d1 hpe hd g1 g2 (gp.trans (pos_at (nI_ps (by omega) h3) (Int32.not_lt.mpr h18)))
        · skip
          refine m_aload_n (pc' := 22) dX5_sortIn_21 rfl rfl ?_
          refine m_getR (pc' := 25) fa_X5_sortIn_14 dX5_sortIn_22 (by decide) rfl rfl rfl rfl ?_
          refine m_iload_n (pc' := 26) dX5_sortIn_25 rfl rfl ?_
          refine m_iconst (pc' := 27) (v := 1) dX5_sortIn_26 (by decide) rfl ?_
          refine m_isub (pc' := 28) dX5_sortIn_27 rfl ?_
          rw [show ((nI p) - 1) = (nI (p - 1)) from pk_dif (b := 1) (nI_ps (by omega) h3)]
          refine m_iload_n (pc' := 29) dX5_sortIn_28 rfl rfl ?_
          refine m_callV (pc' := 32) (A := [.int (nI (p - 1)), .int (nI p)]) (rest := []) (b := 191) cl_X5_sortIn_54 dX5_sortIn_29 rfl rfl (Nat.le_of_ble_eq_true rfl) ⟨by decide, by decide⟩ (by decide) rfl rfl rfl rfl ?_
          refine c_row1N (t := 191) (L := 16) (f := p - 1) (g := p) (isT_lit (by decide +kernel)) (by decide) (by omega) (by omega) ?_
          show mM G mX5_sortIn 32 [some (.ref 190), some (.int (nI e)), some (.int (key e)), some (.int (nI p))] [] S1 (u2 d1.1 192 p (d1.1 192 (p - 1)), d1.2) (0, 0) Q
          refine m_aload_n (pc' := 33) dX5_sortIn_32 rfl rfl ?_
          refine m_getR (pc' := 36) fa_X5_sortIn_20 dX5_sortIn_33 (by decide) rfl rfl rfl rfl ?_
          refine m_iload_n (pc' := 37) dX5_sortIn_36 rfl rfl ?_
          refine m_iconst (pc' := 38) (v := 1) dX5_sortIn_37 (by decide) rfl ?_
          refine m_isub (pc' := 39) dX5_sortIn_38 rfl ?_
          rw [show ((nI p) - 1) = (nI (p - 1)) from pk_dif (b := 1) (nI_ps (by omega) h3)]
          refine m_iload_n (pc' := 40) dX5_sortIn_39 rfl rfl ?_
          refine m_callV (pc' := 43) (A := [.int (nI (p - 1)), .int (nI p)]) (rest := []) (b := 193) cl_X5_sortIn_54 dX5_sortIn_40 rfl rfl (Nat.le_of_ble_eq_true rfl) ⟨by decide, by decide⟩ (by decide) rfl rfl rfl rfl ?_
          refine c_row1N (t := 193) (L := 16) (f := p - 1) (g := p) (isT_lit (by decide +kernel)) (by decide) (by omega) (by omega) ?_
          show mM G mX5_sortIn 43 [some (.ref 190), some (.int (nI e)), some (.int (key e)), some (.int (nI p))] [] S1 (u2 (u2 d1.1 192 p (d1.1 192 (p - 1))) 194 p (d1.1 194 (p - 1)), d1.2) (0, 0) Q
          refine m_iinc (pc' := 46) dX5_sortIn_43 rfl (by decide) (v := nI (p - 1)) (pk_m1' (nI_ps (by omega) h3)) rfl rfl ?_
          refine m_goto (tgt := 2) dX5_sortIn_46 (by decide) ?_
          have hp1 := nI_ps (by omega) h3
          have hb := g1 (p - 1) (by omega)
          have k1 : ∀ i, (u2 (u2 d1.1 192 p (d1.1 192 (p - 1))) 194 p (d1.1 194 (p - 1))) 192 i = (u2 d1.1 192 p (d1.1 192 (p - 1))) 192 i := fun i => congrFun (u2_ne (show 192 ≠ 194 by decide)) i
          have k2 : ∀ x i, (u2 d1.1 192 p x) 194 i = d1.1 194 i := fun x i => congrFun (u2_ne (show 194 ≠ 192 by decide)) i
          have ko : ∀ i, i ≠ p → (u2 (u2 d1.1 192 p (d1.1 192 (p - 1))) 194 p (d1.1 194 (p - 1))) 192 i = d1.1 192 i ∧ (u2 (u2 d1.1 192 p (d1.1 192 (p - 1))) 194 p (d1.1 194 (p - 1))) 194 i = d1.1 194 i := fun i hi => ⟨(k1 i).trans (u2_oth hi 192), (u2_oth hi 194).trans (k2 _ i)⟩
          have ks : (u2 (u2 d1.1 192 p (d1.1 192 (p - 1))) 194 p (d1.1 194 (p - 1))) 192 p = d1.1 192 (p - 1) ∧ (u2 (u2 d1.1 192 p (d1.1 192 (p - 1))) 194 p (d1.1 194 (p - 1))) 194 p = d1.1 194 (p - 1) := ⟨(k1 p).trans u2_same, u2_same⟩
          refine ih (p - 1) _ (by omega) (by omega) ((hd.i _ (Or.inl rfl)).i _ (Or.inr rfl)) (fun i hi => ?_) (fun i hi hi2 => ?_) (gp.trans (pos_gt hp1 (Int32.not_le.mp h18)))
          · exact ⟨(ko i (by omega)).1.trans (g1 i (by omega)).1, (ko i (by omega)).2.trans (g1 i (by omega)).2⟩
          · by_cases c1 : i = p
            · subst c1; exact ⟨ks.1.trans hb.1, ks.2.trans hb.2⟩
            · exact ⟨(ko i c1).1.trans (g2 i (by omega) hi2).1, (ko i c1).2.trans (g2 i (by omega) hi2).2⟩
  refine mC_of (by decide +kernel) ⟨_, rfl⟩ (Nat.le_of_ble_eq_true rfl) ?_
  show mM G mX5_sortIn 0 [some (.ref 190), some (.int (nI e)), some (.int (key e)), none] [] S1 d (0, 0) Q
  refine m_iload_n (pc' := 1) dX5_sortIn_0 rfl rfl ?_
  refine m_istore_n (pc' := 2) dX5_sortIn_1 (by decide) rfl rfl ?_
  exact J e e d (Nat.le_refl e) (Nat.le_refl e) fr.rfl hK (fun i h1 h2 => absurd h1 (Nat.not_lt.mpr h2)) rfl
set_option maxHeartbeats 4000000 in
set_option maxRecDepth 100000 in
theorem c_arrange {n r t0 : Nat} (hB : a ∈ suL) (hS : SR d a s) (hl : okL s n) (hc : ∀ c, c < 8 → okC s c) (h76 : s 76 = nI t0) (ht : t0 < 100000) (hr : r ≤ 3) (hQ : ∀ d', fr (arE a) nE d d' → SR d' a (arr s (tau s (nI r) n) n) → Q (some (.int (mvd (tau s (nI r) n) n))) S1 d') : mC G mX5_arrange [.ref 190, .ref a, .int (nI r), .int (nI t0)] S1 d Q := by
  have hn16 := hl.1
  have hso := su_so hB
  have J1 : ∀ (n0 : Nat) (i : Nat) (d1 : Dt) (_ : i + n0 = n) (_ : fr soE nE d d1) (_ : SR d1 a s) (_ : KO d1 (kyc s r) (srt (kyc s r) i) i), mM G mX5_arrange 3 [some (.ref 190), some (.ref a), some (.int (nI r)), some (.int (nI t0)), some (.int (nI i)), none, none] [] S1 d1 (0, 0) Q := by
    intro n0
    induction n0 with
    | zero =>
      intro i d1 hk hd hS hK
      refine m_iload (pc' := 5) dX5_arrange_3 rfl rfl ?_
      refine m_aload_n (pc' := 6) dX5_arrange_5 rfl rfl ?_
      refine m_getI (pc' := 9) fa_X5_arrange_26 dX5_arrange_6 (su_lt0 hB) (su_k0 hB) rfl rfl ?_
      rw [show (d1.1 a 3) = (nI n) from hS.2.2.2.trans hl.2.1]
      refine m_icmp_ge (tgt := 32) (pc' := 12) dX5_arrange_9 (by decide) rfl (fun h9 => ?_) (fun h9 => (h9 (nI_le (by omega) (by omega))).elim)
      refine m_aload_n (pc' := 33) dX5_arrange_32 rfl rfl ?_
      refine m_getR (pc' := 36) fa_X5_arrange_23 dX5_arrange_33 (by decide) rfl rfl rfl rfl ?_
      refine m_aload_n (pc' := 37) dX5_arrange_36 rfl rfl ?_
      refine m_getR (pc' := 40) fa_X5_arrange_39 dX5_arrange_37 (su_lt0 hB) (su_k0 hB) rfl (su_r0_1 hB) rfl ?_
      refine m_callV (pc' := 43) (A := [.ref (a + 3)]) (rest := []) (b := 195) cl_X5_arrange_42 dX5_arrange_40 rfl rfl (Nat.le_of_ble_eq_true rfl) ⟨by decide, by decide⟩ (by decide) rfl rfl rfl rfl ?_
      refine c_tcopyF (t := 195) (t2 := (a + 3)) (W := 2) (W2 := 2) (L := 32) (isT_lit (by decide +kernel)) (su_T3 hB) (by decide) (fun e e0 ec => ?_)
      show mM G mX5_arrange 43 [some (.ref 190), some (.ref a), some (.int (nI r)), some (.int (nI t0)), some (.int (nI i)), none, none] [] S1 e (0, 0) Q
      refine m_iconst (pc' := 44) (v := 0) dX5_arrange_43 (by decide) rfl ?_
      refine m_istore (pc' := 46) dX5_arrange_44 (by decide) rfl rfl ?_
      refine m_iconst (pc' := 47) (v := 0) dX5_arrange_46 (by decide) rfl ?_
      refine m_istore (pc' := 49) dX5_arrange_47 (by decide) rfl rfl ?_
      obtain rfl : n = i := by omega
      have hde : fr (arE a) nE d e := (hd.mono (by intro x j z; omega) (fun _ _ => id)).trans (e0.mono (by intro x j z; have : x = 195 + 1 := z; omega) (fun _ _ => id))
      have eS : SR e a s := hS.fr e0 (fun j => by show ¬ (_ = _); omega) (fun j => by show ¬ (_ = _); omega) (fun j => by show ¬ (_ = _); omega) (by show ¬ (_ = _); omega)
      have ho : ∀ j d2, fr (fun x _ => x = a + 4) nE e d2 → j < n → d2.1 194 j = nI ((srt (kyc s r) n) j) := fun j d2 h2 hj => (h2.1 194 j (by show ¬ (_ = _); omega)).trans ((e0.1 194 j (by show ¬ (_ = _); decide)).trans (hK j hj).2)
      have hcp : ∀ j d2, fr (fun x _ => x = a + 4) nE e d2 → j < 32 → d2.1 196 j = s (44 + j) := fun j d2 h2 hj => (h2.1 196 j (by show ¬ (_ = _); omega)).trans ((ec j hj).trans (hS.2.1 j hj))
      have J2 : ∀ (n0 : Nat) (i : Nat) (d1 : Dt) (_ : i + n0 = n) (_ : fr (fun x _ => x = a + 4) nE e d1) (_ : SR d1 a (arr s (srt (kyc s r) n) i)), mM G mX5_arrange 49 [some (.ref 190), some (.ref a), some (.int (nI r)), some (.int (nI t0)), some (.int (mvd (srt (kyc s r) n) i)), some (.int (nI i)), none] [] S1 d1 (0, 0) Q := by
        intro n0
        induction n0 with
        | zero =>
          intro i d1 hk hd hS2
          refine m_iload (pc' := 51) dX5_arrange_49 rfl rfl ?_
          refine m_aload_n (pc' := 52) dX5_arrange_51 rfl rfl ?_
          refine m_getI (pc' := 55) fa_X5_arrange_26 dX5_arrange_52 (su_lt0 hB) (su_k0 hB) rfl rfl ?_
          rw [show (d1.1 a 3) = (nI n) from (show d1.1 a 3 = nI n from hS2.2.2.2.trans ((aR_arr s (srt (kyc s r) n) i).1 43 (by omega) |>.trans hl.2.1))]
          refine m_icmp_ge (tgt := 133) (pc' := 58) dX5_arrange_55 (by decide) rfl (fun h55 => ?_) (fun h55 => (h55 (nI_le (by omega) (by omega))).elim)
          refine m_iload (pc' := 135) dX5_arrange_133 rfl rfl ?_
          refine m_iret dX5_arrange_135 rfl rfl ⟨by decide, by decide⟩ ?_
          obtain rfl : i = n := by omega
          rw [arr_cg (tau_kyc (s := s) hr hn16)] at hS2
          exact q_i (hQ d1 (hde.trans (hd.mono (by intro x j z; exact Or.inr (Or.inr (Or.inr z))) (fun _ _ => id))) hS2) (mvd_cg _ (tau_kyc hr hn16))
        | succ n0 ih =>
          intro i d1 hk hd hS2
          have hi : i < n := by omega
          have hti := srt_ltn (kyc s r) (Nat.le_refl n) i hi
          refine m_iload (pc' := 51) dX5_arrange_49 rfl rfl ?_
          refine m_aload_n (pc' := 52) dX5_arrange_51 rfl rfl ?_
          refine m_getI (pc' := 55) fa_X5_arrange_26 dX5_arrange_52 (su_lt0 hB) (su_k0 hB) rfl rfl ?_
          rw [show (d1.1 a 3) = (nI n) from (show d1.1 a 3 = nI n from hS2.2.2.2.trans ((aR_arr s (srt (kyc s r) n) i).1 43 (by omega) |>.trans hl.2.1))]
          refine m_icmp_ge (tgt := 133) (pc' := 58) dX5_arrange_55 (by decide) rfl (fun h55 => absurd h55 (nI_ge (by omega) (by omega))) (fun h55 => ?_)
          refine m_aload_n (pc' := 59) dX5_arrange_58 rfl rfl ?_
          refine m_getR (pc' := 62) fa_X5_arrange_20 dX5_arrange_59 (by decide) rfl rfl rfl rfl ?_
          refine m_iload (pc' := 64) dX5_arrange_62 rfl rfl ?_
          refine m_iconst (pc' := 65) (v := 0) dX5_arrange_64 (by decide) rfl ?_
          refine m_callV (pc' := 68) (A := [.int (nI i), .int 0]) (rest := []) (b := 193) cl_X5_arrange_46 dX5_arrange_65 rfl rfl (Nat.le_of_ble_eq_true rfl) ⟨by decide, by decide⟩ (by decide) rfl rfl rfl rfl ?_
          refine c_atN (t := 193) (W := 1) (L := 16) (a := i) (b := 0) (k := i) (isT_lit (by decide +kernel)) (by decide) (by omega) (by omega) ?_
          show mM G mX5_arrange 68 [some (.ref 190), some (.ref a), some (.int (nI r)), some (.int (nI t0)), some (.int (mvd (srt (kyc s r) n) i)), some (.int (nI i)), none] [.int (d1.1 194 i)] S1 d1 (0, 0) Q
          rw [show (d1.1 194 i) = (nI ((srt (kyc s r) n) i)) from ho i d1 hd (by omega)]
          refine m_istore (pc' := 70) dX5_arrange_68 (by decide) rfl rfl ?_
          refine m_aload_n (pc' := 71) dX5_arrange_70 rfl rfl ?_
          refine m_getR (pc' := 74) fa_X5_arrange_39 dX5_arrange_71 (su_lt0 hB) (su_k0 hB) rfl (su_r0_1 hB) rfl ?_
          refine m_iload (pc' := 76) dX5_arrange_74 rfl rfl ?_
          refine m_iconst (pc' := 77) (v := 0) dX5_arrange_76 (by decide) rfl ?_
          refine m_aload_n (pc' := 78) dX5_arrange_77 rfl rfl ?_
          refine m_getR (pc' := 81) fa_X5_arrange_23 dX5_arrange_78 (by decide) rfl rfl rfl rfl ?_
          refine m_iload (pc' := 83) dX5_arrange_81 rfl rfl ?_
          refine m_iconst (pc' := 84) (v := 0) dX5_arrange_83 (by decide) rfl ?_
          refine m_callV (pc' := 87) (A := [.int (nI ((srt (kyc s r) n) i)), .int 0]) (rest := [.int 0, .int (nI i), .ref (a + 3)]) (b := 195) cl_X5_arrange_46 dX5_arrange_84 rfl rfl (Nat.le_of_ble_eq_true rfl) ⟨by decide, by decide⟩ (by decide) rfl rfl rfl rfl ?_
          refine c_atN (t := 195) (W := 2) (L := 32) (a := ((srt (kyc s r) n) i)) (b := 0) (k := 2 * (srt (kyc s r) n) i) (isT_lit (by decide +kernel)) (by decide) (by omega) (by omega) ?_
          show mM G mX5_arrange 87 [some (.ref 190), some (.ref a), some (.int (nI r)), some (.int (nI t0)), some (.int (mvd (srt (kyc s r) n) i)), some (.int (nI i)), some (.int (nI ((srt (kyc s r) n) i)))] [.int (d1.1 196 (2 * (srt (kyc s r) n) i)), .int 0, .int (nI i), .ref (a + 3)] S1 d1 (0, 0) Q
          refine m_callV (pc' := 90) (A := [.int (nI i), .int 0, .int (d1.1 196 (2 * (srt (kyc s r) n) i))]) (rest := []) (b := a + 3) cl_X5_arrange_50 dX5_arrange_87 rfl rfl (Nat.le_of_ble_eq_true rfl) ⟨by decide, by decide⟩ (su_lt3 hB) (su_k3 hB) rfl rfl rfl ?_
          refine c_putN (t := (a + 3)) (W := 2) (L := 32) (a := i) (b := 0) (k := 2 * i) (su_T3 hB) (by decide) (by omega) (by omega) ?_
          show mM G mX5_arrange 90 [some (.ref 190), some (.ref a), some (.int (nI r)), some (.int (nI t0)), some (.int (mvd (srt (kyc s r) n) i)), some (.int (nI i)), some (.int (nI ((srt (kyc s r) n) i)))] [] S1 (u2 d1.1 (a + 3 + 1) (2 * i) (d1.1 196 (2 * (srt (kyc s r) n) i)), d1.2) (0, 0) Q
          refine m_aload_n (pc' := 91) dX5_arrange_90 rfl rfl ?_
          refine m_getR (pc' := 94) fa_X5_arrange_39 dX5_arrange_91 (su_lt0 hB) (su_k0 hB) rfl (su_r0_1 hB) rfl ?_
          refine m_iload (pc' := 96) dX5_arrange_94 rfl rfl ?_
          refine m_iconst (pc' := 97) (v := 1) dX5_arrange_96 (by decide) rfl ?_
          refine m_aload_n (pc' := 98) dX5_arrange_97 rfl rfl ?_
          refine m_getR (pc' := 101) fa_X5_arrange_23 dX5_arrange_98 (by decide) rfl rfl rfl rfl ?_
          refine m_iload (pc' := 103) dX5_arrange_101 rfl rfl ?_
          refine m_iconst (pc' := 104) (v := 1) dX5_arrange_103 (by decide) rfl ?_
          refine m_callV (pc' := 107) (A := [.int (nI ((srt (kyc s r) n) i)), .int 1]) (rest := [.int 1, .int (nI i), .ref (a + 3)]) (b := 195) cl_X5_arrange_46 dX5_arrange_104 rfl rfl (Nat.le_of_ble_eq_true rfl) ⟨by decide, by decide⟩ (by decide) rfl rfl rfl rfl ?_
          refine c_atN (t := 195) (W := 2) (L := 32) (a := ((srt (kyc s r) n) i)) (b := 1) (k := 2 * (srt (kyc s r) n) i + 1) (isT_lit (by decide +kernel)) (by decide) (by omega) (by omega) ?_
          show mM G mX5_arrange 107 [some (.ref 190), some (.ref a), some (.int (nI r)), some (.int (nI t0)), some (.int (mvd (srt (kyc s r) n) i)), some (.int (nI i)), some (.int (nI ((srt (kyc s r) n) i)))] [.int ((((u2 d1.1 (a + 3 + 1) (2 * i) (d1.1 196 (2 * (srt (kyc s r) n) i)), d1.2)).1) 196 (2 * (srt (kyc s r) n) i + 1)), .int 1, .int (nI i), .ref (a + 3)] S1 (u2 d1.1 (a + 3 + 1) (2 * i) (d1.1 196 (2 * (srt (kyc s r) n) i)), d1.2) (0, 0) Q
          rw [show ((((u2 d1.1 (a + 3 + 1) (2 * i) (d1.1 196 (2 * (srt (kyc s r) n) i)), d1.2)).1) 196 (2 * (srt (kyc s r) n) i + 1)) = (d1.1 196 (2 * (srt (kyc s r) n) i + 1)) from congrFun (u2_ne (show 196 ≠ a + 4 by omega)) _]
          refine m_callV (pc' := 110) (A := [.int (nI i), .int 1, .int (d1.1 196 (2 * (srt (kyc s r) n) i + 1))]) (rest := []) (b := a + 3) cl_X5_arrange_50 dX5_arrange_107 rfl rfl (Nat.le_of_ble_eq_true rfl) ⟨by decide, by decide⟩ (su_lt3 hB) (su_k3 hB) rfl rfl rfl ?_
          refine c_putN (t := (a + 3)) (W := 2) (L := 32) (a := i) (b := 1) (k := 2 * i + 1) (su_T3 hB) (by decide) (by omega) (by omega) ?_
          show mM G mX5_arrange 110 [some (.ref 190), some (.ref a), some (.int (nI r)), some (.int (nI t0)), some (.int (mvd (srt (kyc s r) n) i)), some (.int (nI i)), some (.int (nI ((srt (kyc s r) n) i)))] [] S1 (u2 (u2 d1.1 (a + 3 + 1) (2 * i) (d1.1 196 (2 * (srt (kyc s r) n) i))) (a + 3 + 1) (2 * i + 1) (d1.1 196 (2 * (srt (kyc s r) n) i + 1)), d1.2) (0, 0) Q
          refine m_iload (pc' := 112) dX5_arrange_110 rfl rfl ?_
          refine m_iload (pc' := 114) dX5_arrange_112 rfl rfl ?_
          refine m_iload (pc' := 116) dX5_arrange_114 rfl rfl ?_
          refine m_icmp_eq (tgt := 123) (pc' := 119) dX5_arrange_116 (by decide) rfl (fun h116 => ?_) (fun h116 => ?_)
          · skip
            refine m_iconst (pc' := 124) (v := 0) dX5_arrange_123 (by decide) rfl ?_
            refine m_iadd (pc' := 125) dX5_arrange_124 rfl ?_
            refine m_istore (pc' := 127) dX5_arrange_125 (by decide) rfl rfl ?_
            refine m_iinc (pc' := 130) dX5_arrange_127 rfl (by decide) (v := nI (i + 1)) (nI_1 i) rfl rfl ?_
            refine m_goto (tgt := 49) dX5_arrange_130 (by decide) ?_
            refine m_drop 6 (lo' := [some (.ref 190), some (.ref a), some (.int (nI r)), some (.int (nI t0)), some (.int ((mvd (srt (kyc s r) n) i) + 0)), some (.int (nI (i + 1))), none]) rfl ?_
            have e1 : d1.1 196 (2 * (srt (kyc s r) n) i) = s (44 + 2 * (srt (kyc s r) n) i) := hcp (2 * (srt (kyc s r) n) i) d1 hd (by omega)
            have e2 : d1.1 196 (2 * (srt (kyc s r) n) i + 1) = s (45 + 2 * (srt (kyc s r) n) i) := (hcp (2 * (srt (kyc s r) n) i + 1) d1 hd (by omega)).trans (congrArg s (by omega))
            rw [show mvd (srt (kyc s r) n) i + 0 = mvd (srt (kyc s r) n) (i + 1) from by show _ = mvd (srt (kyc s r) n) i + (if (srt (kyc s r) n) i = i then 0 else 1); rw [if_pos ((nI_eq (by omega) (by omega)).mp h116)]]
            refine ih (i + 1) _ (by omega) ((hd.i _ rfl).i _ rfl) ?_
            rw [← arr_s s (srt (kyc s r) n) i, ← e1, ← e2]
            exact (hS2.li (by omega) rfl).li (by omega) (by omega)
          · skip
            refine m_iconst (pc' := 120) (v := 1) dX5_arrange_119 (by decide) rfl ?_
            refine m_goto (tgt := 124) dX5_arrange_120 (by decide) ?_
            refine m_iadd (pc' := 125) dX5_arrange_124 rfl ?_
            refine m_istore (pc' := 127) dX5_arrange_125 (by decide) rfl rfl ?_
            refine m_iinc (pc' := 130) dX5_arrange_127 rfl (by decide) (v := nI (i + 1)) (nI_1 i) rfl rfl ?_
            refine m_goto (tgt := 49) dX5_arrange_130 (by decide) ?_
            refine m_drop 6 (lo' := [some (.ref 190), some (.ref a), some (.int (nI r)), some (.int (nI t0)), some (.int ((mvd (srt (kyc s r) n) i) + 1)), some (.int (nI (i + 1))), none]) rfl ?_
            have e1 : d1.1 196 (2 * (srt (kyc s r) n) i) = s (44 + 2 * (srt (kyc s r) n) i) := hcp (2 * (srt (kyc s r) n) i) d1 hd (by omega)
            have e2 : d1.1 196 (2 * (srt (kyc s r) n) i + 1) = s (45 + 2 * (srt (kyc s r) n) i) := (hcp (2 * (srt (kyc s r) n) i + 1) d1 hd (by omega)).trans (congrArg s (by omega))
            rw [show mvd (srt (kyc s r) n) i + 1 = mvd (srt (kyc s r) n) (i + 1) from by show _ = mvd (srt (kyc s r) n) i + (if (srt (kyc s r) n) i = i then 0 else 1); rw [if_neg (fun z => h116 (congrArg nI z))]]
            refine ih (i + 1) _ (by omega) ((hd.i _ rfl).i _ rfl) ?_
            rw [← arr_s s (srt (kyc s r) n) i, ← e1, ← e2]
            exact (hS2.li (by omega) rfl).li (by omega) (by omega)
      exact J2 n 0 e (by omega) fr.rfl (by rw [arr_0]; exact eS)
    | succ n0 ih =>
      intro i d1 hk hd hS hK
      have hi : i < n := by omega
      refine m_iload (pc' := 5) dX5_arrange_3 rfl rfl ?_
      refine m_aload_n (pc' := 6) dX5_arrange_5 rfl rfl ?_
      refine m_getI (pc' := 9) fa_X5_arrange_26 dX5_arrange_6 (su_lt0 hB) (su_k0 hB) rfl rfl ?_
      rw [show (d1.1 a 3) = (nI n) from hS.2.2.2.trans hl.2.1]
      refine m_icmp_ge (tgt := 32) (pc' := 12) dX5_arrange_9 (by decide) rfl (fun h9 => absurd h9 (nI_ge (by omega) (by omega))) (fun h9 => ?_)
      refine m_aload_n (pc' := 13) dX5_arrange_12 rfl rfl ?_
      refine m_iload (pc' := 15) dX5_arrange_13 rfl rfl ?_
      refine m_aload_n (pc' := 16) dX5_arrange_15 rfl rfl ?_
      refine m_iload (pc' := 18) dX5_arrange_16 rfl rfl ?_
      refine m_iload_n (pc' := 19) dX5_arrange_18 rfl rfl ?_
      refine m_iload_n (pc' := 20) dX5_arrange_19 rfl rfl ?_
      refine m_callS (pc' := 23) (A := [.ref a, .int (nI i), .int (nI r), .int (nI t0)]) (rest := [.int (nI i), .ref 190]) cl_X5_arrange_32 dX5_arrange_20 rfl rfl (Nat.le_of_ble_eq_true rfl) ⟨by decide, by decide⟩ rfl rfl ?_
      refine c_keyOf (n := n) (i := i) (r := r) (t0 := t0) (s := s) hB hS hl hi hc h76 ht hr ?_
      show mM G mX5_arrange 23 [some (.ref 190), some (.ref a), some (.int (nI r)), some (.int (nI t0)), some (.int (nI i)), none, none] [.int (kyc s r i), .int (nI i), .ref 190] S1 d1 (0, 0) Q
      refine m_callV (pc' := 26) (A := [.int (nI i), .int (kyc s r i)]) (rest := []) (b := 190) cl_X5_arrange_36 dX5_arrange_23 rfl rfl (Nat.le_of_ble_eq_true rfl) ⟨by decide, by decide⟩ (by decide) rfl rfl rfl rfl ?_
      refine c_sortIn (e := i) (key := kyc s r) (by omega) hK (fun f f0 fK => ?_)
      show mM G mX5_arrange 26 [some (.ref 190), some (.ref a), some (.int (nI r)), some (.int (nI t0)), some (.int (nI i)), none, none] [] S1 f (0, 0) Q
      refine m_iinc (pc' := 29) dX5_arrange_26 rfl (by decide) (v := nI (i + 1)) (nI_1 i) rfl rfl ?_
      refine m_goto (tgt := 3) dX5_arrange_29 (by decide) ?_
      exact ih (i + 1) f (by omega) (hd.trans f0) (SR_so hS hB f0) fK
  refine mC_of (by decide +kernel) ⟨_, rfl⟩ (Nat.le_of_ble_eq_true rfl) ?_
  show mM G mX5_arrange 0 [some (.ref 190), some (.ref a), some (.int (nI r)), some (.int (nI t0)), none, none, none] [] S1 d (0, 0) Q
  refine m_iconst (pc' := 1) (v := 0) dX5_arrange_0 (by decide) rfl ?_
  refine m_istore (pc' := 3) dX5_arrange_1 (by decide) rfl rfl ?_
  exact J1 n 0 d (by omega) fr.rfl hS (fun i hi => absurd hi (Nat.not_lt_zero i))
set_option maxHeartbeats 4000000 in
set_option maxRecDepth 100000 in
theorem k_order {A : AS} {r : Int32} (hC : CR d A) (hO : OK A) (hQ : ∀ d', cfr d d' → CR d' (opOrder A r).2 → Q (some (.int (opOrder A r).1)) S1 d') : mC G mX10_order [.ref 0, .int r] S1 d Q := by
  by_cases hb : bin r 0 3 = 0
  · skip
    rw [show opOrder A r = (eI, A) from if_pos hb] at hQ
    refine mC_of (by decide +kernel) ⟨_, rfl⟩ (Nat.le_of_ble_eq_true rfl) ?_
    show mM G mX10_order 0 [some (.ref 0), some (.int r)] [] S1 d (0, 0) Q
    refine m_iload_n (pc' := 1) dX10_order_0 rfl rfl ?_
    refine m_iconst (pc' := 2) (v := 0) dX10_order_1 (by decide) rfl ?_
    refine m_iconst (pc' := 3) (v := 3) dX10_order_2 (by decide) rfl ?_
    refine m_callS (pc' := 6) (A := [.int r, .int 0, .int 3]) (rest := []) cl_X10_order_81 dX10_order_3 rfl rfl (Nat.le_of_ble_eq_true rfl) ⟨by decide, by decide⟩ rfl rfl ?_
    refine c_within ?_
    show mM G mX10_order 6 [some (.ref 0), some (.int r)] [.int (bin r 0 3)] S1 d (0, 0) Q
    rw [show (bin r 0 3) = 0 from hb]
    refine m_if_ne (tgt := 12) (pc' := 9) dX10_order_6 (by decide) rfl (fun h6 => absurd h6 (by decide)) (fun h6 => ?_)
    refine m_ldc (pc' := 11) dX10_order_9 kc_X10_order_59 rfl ?_
    refine m_iret dX10_order_11 rfl rfl ⟨by decide, by decide⟩ ?_
    exact hQ _ fr.rfl hC
  obtain ⟨n, hl⟩ := hO.l
  have e43 := hl.2.1
  have hn16 := hl.1
  obtain ⟨t0, ht0, et76⟩ := hO.t
  have hc := hO.c
  have ett : nn (a_s A 76) = t0 := by rw [et76]; exact nn_nI (by omega)
  have enn : nn (a_s A 43) = n := by rw [e43]; exact nn_nI (by omega)
  obtain ⟨r, hr, rfl⟩ := bin_t (b := 3) (by decide) hb
  rw [show opOrder A (nI r) = (mvd (tau (a_s A) (nI r) n) n, rec A (arr (a_s A) (tau (a_s A) (nI r) n) n) (a_h A)) from by unfold opOrder; rw [if_neg hb, enn]] at hQ
  refine mC_of (by decide +kernel) ⟨_, rfl⟩ (Nat.le_of_ble_eq_true rfl) ?_
  show mM G mX10_order 0 [some (.ref 0), some (.int (nI r))] [] S1 d (0, 0) Q
  refine m_iload_n (pc' := 1) dX10_order_0 rfl rfl ?_
  refine m_iconst (pc' := 2) (v := 0) dX10_order_1 (by decide) rfl ?_
  refine m_iconst (pc' := 3) (v := 3) dX10_order_2 (by decide) rfl ?_
  refine m_callS (pc' := 6) (A := [.int (nI r), .int 0, .int 3]) (rest := []) cl_X10_order_81 dX10_order_3 rfl rfl (Nat.le_of_ble_eq_true rfl) ⟨by decide, by decide⟩ rfl rfl ?_
  refine c_within ?_
  show mM G mX10_order 6 [some (.ref 0), some (.int (nI r))] [.int (bin (nI r) 0 3)] S1 d (0, 0) Q
  rw [show (bin (nI r) 0 3) = 1 from bin_1 hb]
  refine m_if_ne (tgt := 12) (pc' := 9) dX10_order_6 (by decide) rfl (fun h6 => ?_) (fun h6 => absurd h6 (by decide))
  refine m_aload_n (pc' := 13) dX10_order_12 rfl rfl ?_
  refine m_getR (pc' := 16) fa_X10_order_19 dX10_order_13 (by decide) rfl rfl rfl rfl ?_
  refine m_aload_n (pc' := 17) dX10_order_16 rfl rfl ?_
  refine m_getR (pc' := 20) fa_X10_order_10 dX10_order_17 (by decide) rfl rfl rfl rfl ?_
  refine m_callV (pc' := 23) (A := [.ref 1]) (rest := []) (b := 32) cl_X10_order_60 dX10_order_20 rfl rfl (Nat.le_of_ble_eq_true rfl) ⟨by decide, by decide⟩ (by decide) rfl rfl rfl rfl ?_
  refine c_keep hC.1 hC.2.1 hO (fun g g0 gH => ?_)
  show mM G mX10_order 23 [some (.ref 0), some (.int (nI r))] [] S1 g (0, 0) Q
  have gC := CR_keep hC g0 gH
  have hS : SR g 2 (a_s A) := gC.1.1
  refine m_aload_n (pc' := 24) dX10_order_23 rfl rfl ?_
  refine m_getR (pc' := 27) fa_X10_order_33 dX10_order_24 (by decide) rfl rfl rfl rfl ?_
  refine m_aload_n (pc' := 28) dX10_order_27 rfl rfl ?_
  refine m_getR (pc' := 31) fa_X10_order_10 dX10_order_28 (by decide) rfl rfl rfl rfl ?_
  refine m_getR (pc' := 34) fa_X10_order_64 dX10_order_31 (by decide) rfl rfl rfl rfl ?_
  refine m_iload_n (pc' := 35) dX10_order_34 rfl rfl ?_
  refine m_aload_n (pc' := 36) dX10_order_35 rfl rfl ?_
  refine m_getR (pc' := 39) fa_X10_order_10 dX10_order_36 (by decide) rfl rfl rfl rfl ?_
  refine m_callV (pc' := 42) (A := []) (rest := [.int (nI r), .ref 2, .ref 190]) (b := 1) cl_X10_order_121 dX10_order_39 rfl rfl (Nat.le_of_ble_eq_true rfl) ⟨by decide, by decide⟩ (by decide) rfl rfl rfl rfl ?_
  refine c_time gC.1 hO.1.2.2.2.2.2 ?_
  show mM G mX10_order 42 [some (.ref 0), some (.int (nI r))] [.int (a_s A 76), .int (nI r), .ref 2, .ref 190] S1 g (0, 0) Q
  rw [show (a_s A 76) = (nI t0) from et76]
  refine m_callV (pc' := 45) (A := [.ref 2, .int (nI r), .int (nI t0)]) (rest := []) (b := 190) cl_X10_order_125 dX10_order_42 rfl rfl (Nat.le_of_ble_eq_true rfl) ⟨by decide, by decide⟩ (by decide) rfl rfl rfl rfl ?_
  refine c_arrange (a := 2) (n := n) (r := r) (t0 := t0) (s := a_s A) (by decide) hS hl hc et76 (by omega) hr (fun f f0 fS => ?_)
  show mM G mX10_order 45 [some (.ref 0), some (.int (nI r))] [.int (mvd (tau (a_s A) (nI r) n) n)] S1 f (0, 0) Q
  refine m_iret dX10_order_45 rfl rfl ⟨by decide, by decide⟩ ?_
  exact hQ f ((kp_cf g0).trans (f0.mono (by intro x j z; omega) (fun _ _ => False.elim))) (CR_so (s := a_s A) gC f0 fS (fun j hj => (aR_arr _ _ _).1 j (by omega)))
abbrev drE (x _j : Nat) : Prop := 189 ≤ x ∧ x < 214 ∧ x ≠ 205 ∧ x ≠ 206
theorem CR_dr {d d' : Dt} {A : AS} (hC : CR d A) (hf : fr drE nE d d') : CR d' A :=
  ⟨TR_bk hC.1 ⟨fun x j h1 h2 => hf.1 x j (by omega), fun j => hf.2 1 j id⟩, HS_bk hC.2.1 (fun x j h1 h2 => hf.1 x j (by omega)) (fun x j h1 h2 => hf.2 x j id), (hf.1 205 1 (by omega)).trans hC.2.2.1, fun j hj => (hf.1 206 j (by omega)).trans (hC.2.2.2 j hj)⟩
theorem dr_cf {d d' : Dt} (h : fr drE nE d d') : cfr d d' := h.mono (by intro x j z; omega) (fun _ _ => False.elim)
set_option maxHeartbeats 4000000 in
set_option maxRecDepth 100000 in
theorem k_bestRule {A : AS}  (hC : CR d A) (hO : OK A) (hQ : ∀ d', cfr d d' → CR d' A → Q (some (.int (vBest A))) S1 d') : mC G mX10_bestRule [.ref 0] S1 d Q := by
  obtain ⟨n, hl⟩ := hO.l
  have e43 := hl.2.1
  have hn16 := hl.1
  obtain ⟨t0, ht0, et76⟩ := hO.t
  have hc := hO.c
  have ett : nn (a_s A 76) = t0 := by rw [et76]; exact nn_nI (by omega)
  have enn : nn (a_s A 43) = n := by rw [e43]; exact nn_nI (by omega)
  rw [show vBest A = (bst (a_s A) t0 (a_h A) n 4).1 from by unfold vBest; rw [ett, enn]] at hQ
  have J : ∀ (n0 : Nat) (r : Nat) (d1 : Dt) (_ : r + n0 = 4) (_ : cfr d d1) (_ : CR d1 A), mM G mX10_bestRule 26 [some (.ref 0), some (.int ((bst (a_s A) t0 (a_h A) n r).1)), some (.int ((bst (a_s A) t0 (a_h A) n r).2)), some (.int (nI r)), none] [] S1 d1 (0, 0) Q := by
    intro n0
    induction n0 with
    | zero =>
      intro r d1 hk hd hC1
      refine m_iload_n (pc' := 27) dX10_bestRule_26 rfl rfl ?_
      refine m_iconst (pc' := 28) (v := 4) dX10_bestRule_27 (by decide) rfl ?_
      refine m_icmp_ge (tgt := 99) (pc' := 31) dX10_bestRule_28 (by decide) rfl (fun h28 => ?_) (fun h28 => (h28 (nI_le (a := 4) (by omega) (by omega))).elim)
      refine m_iload_n (pc' := 100) dX10_bestRule_99 rfl rfl ?_
      refine m_iret dX10_bestRule_100 rfl rfl ⟨by decide, by decide⟩ ?_
      obtain rfl : r = 4 := by omega
      exact hQ d1 hd hC1
    | succ n0 ih =>
      intro r d1 hk hd hC1
      have hr3 : r ≤ 3 := by omega
      have hA := aR_arr (a_s A) (tau (a_s A) (nI r) n) n
      refine m_iload_n (pc' := 27) dX10_bestRule_26 rfl rfl ?_
      refine m_iconst (pc' := 28) (v := 4) dX10_bestRule_27 (by decide) rfl ?_
      refine m_icmp_ge (tgt := 99) (pc' := 31) dX10_bestRule_28 (by decide) rfl (fun h28 => absurd h28 (nI_ge (b := 4) (by omega) (by omega))) (fun h28 => ?_)
      refine m_aload_n (pc' := 32) dX10_bestRule_31 rfl rfl ?_
      refine m_getR (pc' := 35) fa_X10_bestRule_40 dX10_bestRule_32 (by decide) rfl rfl rfl rfl ?_
      refine m_aload_n (pc' := 36) dX10_bestRule_35 rfl rfl ?_
      refine m_getR (pc' := 39) fa_X10_bestRule_10 dX10_bestRule_36 (by decide) rfl rfl rfl rfl ?_
      refine m_getR (pc' := 42) fa_X10_bestRule_64 dX10_bestRule_39 (by decide) rfl rfl rfl rfl ?_
      refine m_callV (pc' := 45) (A := [.ref 2]) (rest := []) (b := 197) cl_X10_bestRule_165 dX10_bestRule_42 rfl rfl (Nat.le_of_ble_eq_true rfl) ⟨by decide, by decide⟩ (by decide) rfl rfl rfl rfl ?_
      refine c_scopy (a := 197) (b := 2) (s := a_s A) (by decide) (by decide) (by decide) hC1.1.1 (fun e e0 eS => ?_)
      show mM G mX10_bestRule 45 [some (.ref 0), some (.int ((bst (a_s A) t0 (a_h A) n r).1)), some (.int ((bst (a_s A) t0 (a_h A) n r).2)), some (.int (nI r)), none] [] S1 e (0, 0) Q
      have eC : CR e A := CR_dr hC1 (e0.mono (fun x j z => (show drE x j by omega)) (fun _ _ => id))
      refine m_aload_n (pc' := 46) dX10_bestRule_45 rfl rfl ?_
      refine m_getR (pc' := 49) fa_X10_bestRule_33 dX10_bestRule_46 (by decide) rfl rfl rfl rfl ?_
      refine m_aload_n (pc' := 50) dX10_bestRule_49 rfl rfl ?_
      refine m_getR (pc' := 53) fa_X10_bestRule_40 dX10_bestRule_50 (by decide) rfl rfl rfl rfl ?_
      refine m_iload_n (pc' := 54) dX10_bestRule_53 rfl rfl ?_
      refine m_aload_n (pc' := 55) dX10_bestRule_54 rfl rfl ?_
      refine m_getR (pc' := 58) fa_X10_bestRule_10 dX10_bestRule_55 (by decide) rfl rfl rfl rfl ?_
      refine m_callV (pc' := 61) (A := []) (rest := [.int (nI r), .ref 197, .ref 190]) (b := 1) cl_X10_bestRule_121 dX10_bestRule_58 rfl rfl (Nat.le_of_ble_eq_true rfl) ⟨by decide, by decide⟩ (by decide) rfl rfl rfl rfl ?_
      refine c_time eC.1 hO.1.2.2.2.2.2 ?_
      show mM G mX10_bestRule 61 [some (.ref 0), some (.int ((bst (a_s A) t0 (a_h A) n r).1)), some (.int ((bst (a_s A) t0 (a_h A) n r).2)), some (.int (nI r)), none] [.int (a_s A 76), .int (nI r), .ref 197, .ref 190] S1 e (0, 0) Q
      rw [show (a_s A 76) = (nI t0) from et76]
      refine m_callV (pc' := 64) (A := [.ref 197, .int (nI r), .int (nI t0)]) (rest := []) (b := 190) cl_X10_bestRule_125 dX10_bestRule_61 rfl rfl (Nat.le_of_ble_eq_true rfl) ⟨by decide, by decide⟩ (by decide) rfl rfl rfl rfl ?_
      refine c_arrange (a := 197) (n := n) (r := r) (t0 := t0) (s := a_s A) (by decide) eS hl hc et76 (by omega) hr3 (fun x x0 xS => ?_)
      show mM G mX10_bestRule 64 [some (.ref 0), some (.int ((bst (a_s A) t0 (a_h A) n r).1)), some (.int ((bst (a_s A) t0 (a_h A) n r).2)), some (.int (nI r)), none] [.int (mvd (tau (a_s A) (nI r) n) n)] S1 x (0, 0) Q
      have xC : CR x A := CR_dr eC (x0.mono (fun x j z => (show drE x j by omega)) (fun _ _ => id))
      refine m_pop (pc' := 65) dX10_bestRule_64 rfl ?_
      refine m_aload_n (pc' := 66) dX10_bestRule_65 rfl rfl ?_
      refine m_aload_n (pc' := 67) dX10_bestRule_66 rfl rfl ?_
      refine m_getR (pc' := 70) fa_X10_bestRule_40 dX10_bestRule_67 (by decide) rfl rfl rfl rfl ?_
      refine m_aload_n (pc' := 71) dX10_bestRule_70 rfl rfl ?_
      refine m_getR (pc' := 74) fa_X10_bestRule_40 dX10_bestRule_71 (by decide) rfl rfl rfl rfl ?_
      refine m_getI (pc' := 77) fa_X10_bestRule_100 dX10_bestRule_74 (by decide) rfl rfl rfl ?_
      rw [show (x.1 197 3) = (nI n) from xS.2.2.2.trans ((hA.1 43 (by omega)).trans e43)]
      refine m_callV (pc' := 80) (A := [.ref 197, .int (nI n)]) (rest := []) (b := 0) cl_X10_bestRule_234 dX10_bestRule_77 rfl rfl (Nat.le_of_ble_eq_true rfl) ⟨by decide, by decide⟩ (by decide) rfl rfl rfl rfl ?_
      refine c_try (n := n) (m := n) (t0 := t0) (h := a_h A) (sA := a_s A) (s := (arr (a_s A) (tau (a_s A) (nI r) n) n)) xC.1 hO.1.2.2.2.2.2 et76 ht0 (by decide) xS (okL_ar hA hl tau_lt) (okC_ar hA hc) (Nat.le_refl n) (fun y y0 yS y1 y9 yq => ?_)
      show mM G mX10_bestRule 80 [some (.ref 0), some (.int ((bst (a_s A) t0 (a_h A) n r).1)), some (.int ((bst (a_s A) t0 (a_h A) n r).2)), some (.int (nI r)), none] [.int (esm (arr (a_s A) (tau (a_s A) (nI r) n) n) t0 (a_h A) n)] S1 y (0, 0) Q
      refine m_istore (pc' := 82) dX10_bestRule_80 (by decide) rfl rfl ?_
      refine m_iload (pc' := 84) dX10_bestRule_82 rfl rfl ?_
      refine m_iload_n (pc' := 85) dX10_bestRule_84 rfl rfl ?_
      refine m_icmp_ge (tgt := 93) (pc' := 88) dX10_bestRule_85 (by decide) rfl (fun h85 => ?_) (fun h85 => ?_)
      · skip
        refine m_iinc (pc' := 96) dX10_bestRule_93 rfl (by decide) (v := nI (r + 1)) (nI_1 r) rfl rfl ?_
        refine m_goto (tgt := 26) dX10_bestRule_96 (by decide) ?_
        refine m_drop 4 (lo' := [some (.ref 0), some (.int ((bst (a_s A) t0 (a_h A) n r).1)), some (.int ((bst (a_s A) t0 (a_h A) n r).2)), some (.int (nI (r + 1))), none]) rfl ?_
        have hz : (bst (a_s A) t0 (a_h A) n (r + 1)) = (bst (a_s A) t0 (a_h A) n r) := by
          show (if (esm (arr (a_s A) (tau (a_s A) (nI r) n) n) t0 (a_h A) n) < (bst (a_s A) t0 (a_h A) n r).2 then (nI r, (esm (arr (a_s A) (tau (a_s A) (nI r) n) n) t0 (a_h A) n)) else (bst (a_s A) t0 (a_h A) n r)) = _
          rw [if_neg (Int32.not_lt.mpr h85)]
        rw [show (bst (a_s A) t0 (a_h A) n r).1 = (bst (a_s A) t0 (a_h A) n (r + 1)).1 from by rw [hz], show (bst (a_s A) t0 (a_h A) n r).2 = (bst (a_s A) t0 (a_h A) n (r + 1)).2 from by rw [hz]]
        exact ih (r + 1) y (by omega) (hd.trans (((dr_cf (e0.mono (fun x j z => (show drE x j by omega)) (fun _ _ => id))).trans (dr_cf (x0.mono (fun x j z => (show drE x j by omega)) (fun _ _ => id)))).trans (cv_cf y0))) (CR_cv xC y0)
      · skip
        refine m_iload (pc' := 90) dX10_bestRule_88 rfl rfl ?_
        refine m_istore_n (pc' := 91) dX10_bestRule_90 (by decide) rfl rfl ?_
        refine m_iload_n (pc' := 92) dX10_bestRule_91 rfl rfl ?_
        refine m_istore_n (pc' := 93) dX10_bestRule_92 (by decide) rfl rfl ?_
        refine m_iinc (pc' := 96) dX10_bestRule_93 rfl (by decide) (v := nI (r + 1)) (nI_1 r) rfl rfl ?_
        refine m_goto (tgt := 26) dX10_bestRule_96 (by decide) ?_
        refine m_drop 4 (lo' := [some (.ref 0), some (.int (nI r)), some (.int (esm (arr (a_s A) (tau (a_s A) (nI r) n) n) t0 (a_h A) n)), some (.int (nI (r + 1))), none]) rfl ?_
        have hz : (bst (a_s A) t0 (a_h A) n (r + 1)) = (nI r, (esm (arr (a_s A) (tau (a_s A) (nI r) n) n) t0 (a_h A) n)) := by
          show (if (esm (arr (a_s A) (tau (a_s A) (nI r) n) n) t0 (a_h A) n) < (bst (a_s A) t0 (a_h A) n r).2 then (nI r, (esm (arr (a_s A) (tau (a_s A) (nI r) n) n) t0 (a_h A) n)) else (bst (a_s A) t0 (a_h A) n r)) = _
          rw [if_pos (Int32.not_le.mp h85)]
        have fz := ih (r + 1) y (by omega) (hd.trans (((dr_cf (e0.mono (fun x j z => (show drE x j by omega)) (fun _ _ => id))).trans (dr_cf (x0.mono (fun x j z => (show drE x j by omega)) (fun _ _ => id)))).trans (cv_cf y0))) (CR_cv xC y0)
        rw [hz] at fz
        exact fz
  refine mC_of (by decide +kernel) ⟨_, rfl⟩ (Nat.le_of_ble_eq_true rfl) ?_
  show mM G mX10_bestRule 0 [some (.ref 0), none, none, none, none] [] S1 d (0, 0) Q
  refine m_iconst (pc' := 1) (v := (-1)) dX10_bestRule_0 (by decide) rfl ?_
  refine m_istore_n (pc' := 2) dX10_bestRule_1 (by decide) rfl rfl ?_
  refine m_aload_n (pc' := 3) dX10_bestRule_2 rfl rfl ?_
  refine m_aload_n (pc' := 4) dX10_bestRule_3 rfl rfl ?_
  refine m_getR (pc' := 7) fa_X10_bestRule_10 dX10_bestRule_4 (by decide) rfl rfl rfl rfl ?_
  refine m_getR (pc' := 10) fa_X10_bestRule_64 dX10_bestRule_7 (by decide) rfl rfl rfl rfl ?_
  refine m_aload_n (pc' := 11) dX10_bestRule_10 rfl rfl ?_
  refine m_getR (pc' := 14) fa_X10_bestRule_10 dX10_bestRule_11 (by decide) rfl rfl rfl rfl ?_
  refine m_getR (pc' := 17) fa_X10_bestRule_64 dX10_bestRule_14 (by decide) rfl rfl rfl rfl ?_
  refine m_getI (pc' := 20) fa_X10_bestRule_100 dX10_bestRule_17 (by decide) rfl rfl rfl ?_
  rw [show (d.1 2 3) = (nI n) from hC.1.1.2.2.2.trans e43]
  refine m_callV (pc' := 23) (A := [.ref 2, .int (nI n)]) (rest := []) (b := 0) cl_X10_bestRule_234 dX10_bestRule_20 rfl rfl (Nat.le_of_ble_eq_true rfl) ⟨by decide, by decide⟩ (by decide) rfl rfl rfl rfl ?_
  refine c_try (n := n) (m := n) (t0 := t0) (h := a_h A) (sA := a_s A) (s := a_s A) hC.1 hO.1.2.2.2.2.2 et76 ht0 (by decide) hC.1.1 hl hc (Nat.le_refl n) (fun f f0 fS f1 f9 fq => ?_)
  show mM G mX10_bestRule 23 [some (.ref 0), some (.int (-1)), none, none, none] [.int (esm (a_s A) t0 (a_h A) n)] S1 f (0, 0) Q
  refine m_istore_n (pc' := 24) dX10_bestRule_23 (by decide) rfl rfl ?_
  refine m_iconst (pc' := 25) (v := 0) dX10_bestRule_24 (by decide) rfl ?_
  refine m_istore_n (pc' := 26) dX10_bestRule_25 (by decide) rfl rfl ?_
  exact J 4 0 f (by omega) (cv_cf f0) (CR_cv hC f0)
end CLS23
