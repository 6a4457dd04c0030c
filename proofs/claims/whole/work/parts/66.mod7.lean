/-! THE CHECK'S OWN CALLS (3): those that change the state -/
section MOD7
variable {G : GP} {Q : Option Value → Sh → Dt → Prop} {d : Dt}
theorem opSet_no {A : AS} {w v : Int32} (h : oset w v = 0) : opSet A w v = (eI, A) := if_pos h
theorem opSet_yes {A : AS} {w v : Int32} (h : ¬ oset w v = 0) : opSet A w v = (a_s A (40 + nn w), rec A (sU (a_s A) (40 + nn w) v) (a_h A)) := if_neg h
theorem oset_0 (v : Int32) : oset 0 v = bin v 0 4095 := by unfold oset; rw [if_pos rfl]
theorem oset_1 (v : Int32) : oset 1 v = bin v 900 1100 := by unfold oset; rw [if_neg (by decide), if_pos rfl]
theorem oset_2 (v : Int32) : oset 2 v = bin v (-100) 100 := by unfold oset; rw [if_neg (by decide), if_neg (by decide), if_pos rfl]
theorem oset_X {w : Int32} (v : Int32) (h0 : ¬ w = 0) (h1 : ¬ w = 1) (h2 : ¬ w = 2) : oset w v = 0 := by unfold oset; rw [if_neg h0, if_neg h1, if_neg h2]
theorem OK.l {A : AS} (h : OK A) : ∃ n, okL (a_s A) n := h.1.1.2.2
theorem OK.c {A : AS} (h : OK A) : ∀ c, c < 8 → okC (a_s A) c := h.1.1.1
theorem bin_e {e : Int32} {n : Nat} (hn : n ≤ 1000) (h : ¬ bin e 0 (nI n - 1) = 0) : ∃ j, j < n ∧ e = nI j := by
  cases n with
  | zero =>
    exfalso; apply h; unfold bin; rw [if_neg]
    rintro ⟨h1, h2⟩
    have h1' := Int32.le_iff_toInt_le.mp h1
    have h2' := Int32.le_iff_toInt_le.mp h2
    have e1 : (nI 0 - 1 : Int32).toInt = -1 := by decide
    have e2 : (0 : Int32).toInt = 0 := by decide
    rw [e1] at h2'; rw [e2] at h1'; omega
  | succ m =>
    rw [nI_pred m] at h
    obtain ⟨j, h1, h2⟩ := bin_t (b := m) (by omega) h
    exact ⟨j, by omega, h2⟩
theorem MM.put {d : Dt} {B : AS} {s s' : SS} {k : Nat} {x : Int32} {h0 : UInt32} (h : MM d (rec B s h0)) (e : sU s k x = s') : MM (u2 d.1 215 k x, d.2) (rec B s' h0) :=
  h.row (A := rec B s h0) (fr.i fr.rfl _ rfl) ((u2_row h.1).trans e)
theorem mfr_put {d d1 : Dt} {k : Nat} {x : Int32} (h : mfr d d1) : mfr d (u2 d1.1 215 k x, d1.2) := fr.i h _ (show 214 ≤ 215 by decide)
theorem MM.put' {d : Dt} {s s' : SS} {T : Nat × SS × (Nat → UInt32) × UInt32 × SS × Nat} {k : Nat} {x : Int32} (h : MM d (s, T)) (e : sU s k x = s') : MM (u2 d.1 215 k x, d.2) (s', T) :=
  h.row (A := (s, T)) (fr.i fr.rfl _ rfl) ((u2_row h.1).trans e)
theorem tk_lo {s : SS} {p i k : Nat} (h : k < 254) : cpw s (sU s (254 + 77 * p) 1) (255 + 77 * p) i k = s k := by
  unfold cpw sU; rw [if_neg (by omega), if_neg (by omega)]
set_option maxHeartbeats 4000000 in
set_option maxRecDepth 100000 in
theorem p_set0 {A : AS} {v : Int32} (hM : MM d A)  (hQ : ∀ d', mfr d d' → MM d' (opSet A 0 v).2 → Q (some (.int (opSet A 0 v).1)) S1 d') : mC G mX11_set [.ref 214, .int 0, .int v] S1 d Q := by
  by_cases h1 : bin v 0 4095 = 0
  · skip
    rw [show opSet A 0 v = (eI, A) from opSet_no ((oset_0 v).trans h1)] at hQ
    refine mC_of (by decide +kernel) ⟨_, rfl⟩ (Nat.le_of_ble_eq_true rfl) ?_
    show mM G mX11_set 0 [some (.ref 214), some (.int 0), some (.int v), none] [] S1 d (0, 0) Q
    refine m_aload_n (pc' := 1) dX11_set_0 rfl rfl ?_
    refine m_iconst (pc' := 2) (v := 0) dX11_set_1 (by decide) rfl ?_
    refine m_putI (pc' := 5) (ty := .int) fa_X11_set_29 dX11_set_2 (by decide +kernel) rfl rfl (by decide) rfl rfl rfl ?_
    refine m_iload_n (pc' := 6) dX11_set_5 rfl rfl ?_
    refine m_if_ne (tgt := 20) (pc' := 9) dX11_set_6 (by decide) rfl (fun h6 => absurd h6 (by decide)) (fun h6 => ?_)
    refine m_iload_n (pc' := 10) dX11_set_9 rfl rfl ?_
    refine m_iconst (pc' := 11) (v := 0) dX11_set_10 (by decide) rfl ?_
    refine m_sipush (pc' := 14) (v := 4095) dX11_set_11 (by decide) rfl ?_
    refine m_callS (pc' := 17) (A := [.int v, .int 0, .int 4095]) (rest := []) cl_X11_set_40 dX11_set_14 rfl rfl (Nat.le_of_ble_eq_true rfl) ⟨by decide, by decide⟩ rfl rfl ?_
    refine c_in ?_
    show mM G mX11_set 17 [some (.ref 214), some (.int 0), some (.int v), none] [.int (bin v 0 4095)] S1 (u2 d.1 214 0 0, d.2) (0, 0) Q
    rw [show (bin v 0 4095) = 0 from h1]
    refine m_goto (tgt := 59) dX11_set_17 (by decide) ?_
    refine m_istore_n (pc' := 60) dX11_set_59 (by decide) rfl rfl ?_
    refine m_iload_n (pc' := 61) dX11_set_60 rfl rfl ?_
    refine m_if_eq (tgt := 76) (pc' := 64) dX11_set_61 (by decide) rfl (fun h61 => ?_) (fun h61 => absurd h61 (by decide))
    refine m_ldc (pc' := 78) dX11_set_76 kc_X11_set_111 rfl ?_
    refine m_iret dX11_set_78 rfl rfl ⟨by decide, by decide⟩ ?_
    exact hQ _ mfr.th hM.th
  have hM0 := hM.th
  have hs : d.1 215 = a_s A := hM.1
  rw [show opSet A 0 v = (a_s A 40, rec A (sU (a_s A) 40 v) (a_h A)) from (opSet_yes (by rw [oset_0]; exact h1)).trans rfl] at hQ
  refine mC_of (by decide +kernel) ⟨_, rfl⟩ (Nat.le_of_ble_eq_true rfl) ?_
  show mM G mX11_set 0 [some (.ref 214), some (.int 0), some (.int v), none] [] S1 d (0, 0) Q
  refine m_aload_n (pc' := 1) dX11_set_0 rfl rfl ?_
  refine m_iconst (pc' := 2) (v := 0) dX11_set_1 (by decide) rfl ?_
  refine m_putI (pc' := 5) (ty := .int) fa_X11_set_29 dX11_set_2 (by decide +kernel) rfl rfl (by decide) rfl rfl rfl ?_
  refine m_iload_n (pc' := 6) dX11_set_5 rfl rfl ?_
  refine m_if_ne (tgt := 20) (pc' := 9) dX11_set_6 (by decide) rfl (fun h6 => absurd h6 (by decide)) (fun h6 => ?_)
  refine m_iload_n (pc' := 10) dX11_set_9 rfl rfl ?_
  refine m_iconst (pc' := 11) (v := 0) dX11_set_10 (by decide) rfl ?_
  refine m_sipush (pc' := 14) (v := 4095) dX11_set_11 (by decide) rfl ?_
  refine m_callS (pc' := 17) (A := [.int v, .int 0, .int 4095]) (rest := []) cl_X11_set_40 dX11_set_14 rfl rfl (Nat.le_of_ble_eq_true rfl) ⟨by decide, by decide⟩ rfl rfl ?_
  refine c_in ?_
  show mM G mX11_set 17 [some (.ref 214), some (.int 0), some (.int v), none] [.int (bin v 0 4095)] S1 (u2 d.1 214 0 0, d.2) (0, 0) Q
  rw [show (bin v 0 4095) = 1 from bin_1 h1]
  refine m_goto (tgt := 59) dX11_set_17 (by decide) ?_
  refine m_istore_n (pc' := 60) dX11_set_59 (by decide) rfl rfl ?_
  refine m_iload_n (pc' := 61) dX11_set_60 rfl rfl ?_
  refine m_if_eq (tgt := 76) (pc' := 64) dX11_set_61 (by decide) rfl (fun h61 => absurd h61 (by decide)) (fun h61 => ?_)
  refine m_aload_n (pc' := 65) dX11_set_64 rfl rfl ?_
  refine m_bipush (pc' := 67) (v := 40) dX11_set_65 (by decide) rfl ?_
  refine m_iload_n (pc' := 68) dX11_set_67 rfl rfl ?_
  refine m_iadd (pc' := 69) dX11_set_68 rfl ?_
  show mM G mX11_set 69 [some (.ref 214), some (.int 0), some (.int v), some (.int 1)] [.int 40, .ref 214] S1 (u2 d.1 214 0 0, d.2) (0, 0) Q
  refine m_iload_n (pc' := 70) dX11_set_69 rfl rfl ?_
  refine m_callV (pc' := 73) (A := [.int 40, .int v]) (rest := []) (b := 214) cl_X11_set_119 dX11_set_70 rfl rfl (Nat.le_of_ble_eq_true rfl) ⟨by decide, by decide⟩ (by decide) rfl rfl rfl rfl ?_
  refine c_mput (A := A) (j := 40) hM0 (rfl) (by decide) (fun e e0 eM => ?_)
  show mM G mX11_set 73 [some (.ref 214), some (.int 0), some (.int v), some (.int 1)] [.int (a_s A 40)] S1 e (0, 0) Q
  refine m_goto (tgt := 78) dX11_set_73 (by decide) ?_
  refine m_iret dX11_set_78 rfl rfl ⟨by decide, by decide⟩ ?_
  exact hQ e (mfr.th.trans e0) eM
set_option maxHeartbeats 4000000 in
set_option maxRecDepth 100000 in
theorem p_set1 {A : AS} {v : Int32} (hM : MM d A)  (hQ : ∀ d', mfr d d' → MM d' (opSet A 1 v).2 → Q (some (.int (opSet A 1 v).1)) S1 d') : mC G mX11_set [.ref 214, .int 1, .int v] S1 d Q := by
  by_cases h1 : bin v 900 1100 = 0
  · skip
    rw [show opSet A 1 v = (eI, A) from opSet_no ((oset_1 v).trans h1)] at hQ
    refine mC_of (by decide +kernel) ⟨_, rfl⟩ (Nat.le_of_ble_eq_true rfl) ?_
    show mM G mX11_set 0 [some (.ref 214), some (.int 1), some (.int v), none] [] S1 d (0, 0) Q
    refine m_aload_n (pc' := 1) dX11_set_0 rfl rfl ?_
    refine m_iconst (pc' := 2) (v := 0) dX11_set_1 (by decide) rfl ?_
    refine m_putI (pc' := 5) (ty := .int) fa_X11_set_29 dX11_set_2 (by decide +kernel) rfl rfl (by decide) rfl rfl rfl ?_
    refine m_iload_n (pc' := 6) dX11_set_5 rfl rfl ?_
    refine m_if_ne (tgt := 20) (pc' := 9) dX11_set_6 (by decide) rfl (fun h6 => ?_) (fun h6 => absurd h6 (by decide))
    refine m_iload_n (pc' := 21) dX11_set_20 rfl rfl ?_
    refine m_iconst (pc' := 22) (v := 1) dX11_set_21 (by decide) rfl ?_
    refine m_icmp_ne (tgt := 38) (pc' := 25) dX11_set_22 (by decide) rfl (fun h22 => absurd h22 (by decide)) (fun h22 => ?_)
    refine m_iload_n (pc' := 26) dX11_set_25 rfl rfl ?_
    refine m_sipush (pc' := 29) (v := 900) dX11_set_26 (by decide) rfl ?_
    refine m_sipush (pc' := 32) (v := 1100) dX11_set_29 (by decide) rfl ?_
    refine m_callS (pc' := 35) (A := [.int v, .int 900, .int 1100]) (rest := []) cl_X11_set_40 dX11_set_32 rfl rfl (Nat.le_of_ble_eq_true rfl) ⟨by decide, by decide⟩ rfl rfl ?_
    refine c_in ?_
    show mM G mX11_set 35 [some (.ref 214), some (.int 1), some (.int v), none] [.int (bin v 900 1100)] S1 (u2 d.1 214 0 0, d.2) (0, 0) Q
    rw [show (bin v 900 1100) = 0 from h1]
    refine m_goto (tgt := 59) dX11_set_35 (by decide) ?_
    refine m_istore_n (pc' := 60) dX11_set_59 (by decide) rfl rfl ?_
    refine m_iload_n (pc' := 61) dX11_set_60 rfl rfl ?_
    refine m_if_eq (tgt := 76) (pc' := 64) dX11_set_61 (by decide) rfl (fun h61 => ?_) (fun h61 => absurd h61 (by decide))
    refine m_ldc (pc' := 78) dX11_set_76 kc_X11_set_111 rfl ?_
    refine m_iret dX11_set_78 rfl rfl ⟨by decide, by decide⟩ ?_
    exact hQ _ mfr.th hM.th
  have hM0 := hM.th
  have hs : d.1 215 = a_s A := hM.1
  rw [show opSet A 1 v = (a_s A 41, rec A (sU (a_s A) 41 v) (a_h A)) from (opSet_yes (by rw [oset_1]; exact h1)).trans rfl] at hQ
  refine mC_of (by decide +kernel) ⟨_, rfl⟩ (Nat.le_of_ble_eq_true rfl) ?_
  show mM G mX11_set 0 [some (.ref 214), some (.int 1), some (.int v), none] [] S1 d (0, 0) Q
  refine m_aload_n (pc' := 1) dX11_set_0 rfl rfl ?_
  refine m_iconst (pc' := 2) (v := 0) dX11_set_1 (by decide) rfl ?_
  refine m_putI (pc' := 5) (ty := .int) fa_X11_set_29 dX11_set_2 (by decide +kernel) rfl rfl (by decide) rfl rfl rfl ?_
  refine m_iload_n (pc' := 6) dX11_set_5 rfl rfl ?_
  refine m_if_ne (tgt := 20) (pc' := 9) dX11_set_6 (by decide) rfl (fun h6 => ?_) (fun h6 => absurd h6 (by decide))
  refine m_iload_n (pc' := 21) dX11_set_20 rfl rfl ?_
  refine m_iconst (pc' := 22) (v := 1) dX11_set_21 (by decide) rfl ?_
  refine m_icmp_ne (tgt := 38) (pc' := 25) dX11_set_22 (by decide) rfl (fun h22 => absurd h22 (by decide)) (fun h22 => ?_)
  refine m_iload_n (pc' := 26) dX11_set_25 rfl rfl ?_
  refine m_sipush (pc' := 29) (v := 900) dX11_set_26 (by decide) rfl ?_
  refine m_sipush (pc' := 32) (v := 1100) dX11_set_29 (by decide) rfl ?_
  refine m_callS (pc' := 35) (A := [.int v, .int 900, .int 1100]) (rest := []) cl_X11_set_40 dX11_set_32 rfl rfl (Nat.le_of_ble_eq_true rfl) ⟨by decide, by decide⟩ rfl rfl ?_
  refine c_in ?_
  show mM G mX11_set 35 [some (.ref 214), some (.int 1), some (.int v), none] [.int (bin v 900 1100)] S1 (u2 d.1 214 0 0, d.2) (0, 0) Q
  rw [show (bin v 900 1100) = 1 from bin_1 h1]
  refine m_goto (tgt := 59) dX11_set_35 (by decide) ?_
  refine m_istore_n (pc' := 60) dX11_set_59 (by decide) rfl rfl ?_
  refine m_iload_n (pc' := 61) dX11_set_60 rfl rfl ?_
  refine m_if_eq (tgt := 76) (pc' := 64) dX11_set_61 (by decide) rfl (fun h61 => absurd h61 (by decide)) (fun h61 => ?_)
  refine m_aload_n (pc' := 65) dX11_set_64 rfl rfl ?_
  refine m_bipush (pc' := 67) (v := 40) dX11_set_65 (by decide) rfl ?_
  refine m_iload_n (pc' := 68) dX11_set_67 rfl rfl ?_
  refine m_iadd (pc' := 69) dX11_set_68 rfl ?_
  show mM G mX11_set 69 [some (.ref 214), some (.int 1), some (.int v), some (.int 1)] [.int 41, .ref 214] S1 (u2 d.1 214 0 0, d.2) (0, 0) Q
  refine m_iload_n (pc' := 70) dX11_set_69 rfl rfl ?_
  refine m_callV (pc' := 73) (A := [.int 41, .int v]) (rest := []) (b := 214) cl_X11_set_119 dX11_set_70 rfl rfl (Nat.le_of_ble_eq_true rfl) ⟨by decide, by decide⟩ (by decide) rfl rfl rfl rfl ?_
  refine c_mput (A := A) (j := 41) hM0 (rfl) (by decide) (fun e e0 eM => ?_)
  show mM G mX11_set 73 [some (.ref 214), some (.int 1), some (.int v), some (.int 1)] [.int (a_s A 41)] S1 e (0, 0) Q
  refine m_goto (tgt := 78) dX11_set_73 (by decide) ?_
  refine m_iret dX11_set_78 rfl rfl ⟨by decide, by decide⟩ ?_
  exact hQ e (mfr.th.trans e0) eM
set_option maxHeartbeats 4000000 in
set_option maxRecDepth 100000 in
theorem p_set2 {A : AS} {v : Int32} (hM : MM d A)  (hQ : ∀ d', mfr d d' → MM d' (opSet A 2 v).2 → Q (some (.int (opSet A 2 v).1)) S1 d') : mC G mX11_set [.ref 214, .int 2, .int v] S1 d Q := by
  by_cases h1 : bin v (-100) 100 = 0
  · skip
    rw [show opSet A 2 v = (eI, A) from opSet_no ((oset_2 v).trans h1)] at hQ
    refine mC_of (by decide +kernel) ⟨_, rfl⟩ (Nat.le_of_ble_eq_true rfl) ?_
    show mM G mX11_set 0 [some (.ref 214), some (.int 2), some (.int v), none] [] S1 d (0, 0) Q
    refine m_aload_n (pc' := 1) dX11_set_0 rfl rfl ?_
    refine m_iconst (pc' := 2) (v := 0) dX11_set_1 (by decide) rfl ?_
    refine m_putI (pc' := 5) (ty := .int) fa_X11_set_29 dX11_set_2 (by decide +kernel) rfl rfl (by decide) rfl rfl rfl ?_
    refine m_iload_n (pc' := 6) dX11_set_5 rfl rfl ?_
    refine m_if_ne (tgt := 20) (pc' := 9) dX11_set_6 (by decide) rfl (fun h6 => ?_) (fun h6 => absurd h6 (by decide))
    refine m_iload_n (pc' := 21) dX11_set_20 rfl rfl ?_
    refine m_iconst (pc' := 22) (v := 1) dX11_set_21 (by decide) rfl ?_
    refine m_icmp_ne (tgt := 38) (pc' := 25) dX11_set_22 (by decide) rfl (fun h22 => ?_) (fun h22 => absurd h22 (by decide))
    refine m_iload_n (pc' := 39) dX11_set_38 rfl rfl ?_
    refine m_iconst (pc' := 40) (v := 2) dX11_set_39 (by decide) rfl ?_
    refine m_icmp_ne (tgt := 58) (pc' := 43) dX11_set_40 (by decide) rfl (fun h40 => absurd h40 (by decide)) (fun h40 => ?_)
    refine m_iload_n (pc' := 44) dX11_set_43 rfl rfl ?_
    refine m_bipush (pc' := 46) (v := (-100)) dX11_set_44 (by decide) rfl ?_
    refine m_bipush (pc' := 48) (v := 100) dX11_set_46 (by decide) rfl ?_
    refine m_callS (pc' := 51) (A := [.int v, .int (-100), .int 100]) (rest := []) cl_X11_set_40 dX11_set_48 rfl rfl (Nat.le_of_ble_eq_true rfl) ⟨by decide, by decide⟩ rfl rfl ?_
    refine c_in ?_
    show mM G mX11_set 51 [some (.ref 214), some (.int 2), some (.int v), none] [.int (bin v (-100) 100)] S1 (u2 d.1 214 0 0, d.2) (0, 0) Q
    rw [show (bin v (-100) 100) = 0 from h1]
    refine m_if_eq (tgt := 58) (pc' := 54) dX11_set_51 (by decide) rfl (fun h51 => ?_) (fun h51 => absurd h51 (by decide))
    refine m_iconst (pc' := 59) (v := 0) dX11_set_58 (by decide) rfl ?_
    refine m_istore_n (pc' := 60) dX11_set_59 (by decide) rfl rfl ?_
    refine m_iload_n (pc' := 61) dX11_set_60 rfl rfl ?_
    refine m_if_eq (tgt := 76) (pc' := 64) dX11_set_61 (by decide) rfl (fun h61 => ?_) (fun h61 => absurd h61 (by decide))
    refine m_ldc (pc' := 78) dX11_set_76 kc_X11_set_111 rfl ?_
    refine m_iret dX11_set_78 rfl rfl ⟨by decide, by decide⟩ ?_
    exact hQ _ mfr.th hM.th
  have hM0 := hM.th
  have hs : d.1 215 = a_s A := hM.1
  rw [show opSet A 2 v = (a_s A 42, rec A (sU (a_s A) 42 v) (a_h A)) from (opSet_yes (by rw [oset_2]; exact h1)).trans rfl] at hQ
  refine mC_of (by decide +kernel) ⟨_, rfl⟩ (Nat.le_of_ble_eq_true rfl) ?_
  show mM G mX11_set 0 [some (.ref 214), some (.int 2), some (.int v), none] [] S1 d (0, 0) Q
  refine m_aload_n (pc' := 1) dX11_set_0 rfl rfl ?_
  refine m_iconst (pc' := 2) (v := 0) dX11_set_1 (by decide) rfl ?_
  refine m_putI (pc' := 5) (ty := .int) fa_X11_set_29 dX11_set_2 (by decide +kernel) rfl rfl (by decide) rfl rfl rfl ?_
  refine m_iload_n (pc' := 6) dX11_set_5 rfl rfl ?_
  refine m_if_ne (tgt := 20) (pc' := 9) dX11_set_6 (by decide) rfl (fun h6 => ?_) (fun h6 => absurd h6 (by decide))
  refine m_iload_n (pc' := 21) dX11_set_20 rfl rfl ?_
  refine m_iconst (pc' := 22) (v := 1) dX11_set_21 (by decide) rfl ?_
  refine m_icmp_ne (tgt := 38) (pc' := 25) dX11_set_22 (by decide) rfl (fun h22 => ?_) (fun h22 => absurd h22 (by decide))
  refine m_iload_n (pc' := 39) dX11_set_38 rfl rfl ?_
  refine m_iconst (pc' := 40) (v := 2) dX11_set_39 (by decide) rfl ?_
  refine m_icmp_ne (tgt := 58) (pc' := 43) dX11_set_40 (by decide) rfl (fun h40 => absurd h40 (by decide)) (fun h40 => ?_)
  refine m_iload_n (pc' := 44) dX11_set_43 rfl rfl ?_
  refine m_bipush (pc' := 46) (v := (-100)) dX11_set_44 (by decide) rfl ?_
  refine m_bipush (pc' := 48) (v := 100) dX11_set_46 (by decide) rfl ?_
  refine m_callS (pc' := 51) (A := [.int v, .int (-100), .int 100]) (rest := []) cl_X11_set_40 dX11_set_48 rfl rfl (Nat.le_of_ble_eq_true rfl) ⟨by decide, by decide⟩ rfl rfl ?_
  refine c_in ?_
  show mM G mX11_set 51 [some (.ref 214), some (.int 2), some (.int v), none] [.int (bin v (-100) 100)] S1 (u2 d.1 214 0 0, d.2) (0, 0) Q
  rw [show (bin v (-100) 100) = 1 from bin_1 h1]
  refine m_if_eq (tgt := 58) (pc' := 54) dX11_set_51 (by decide) rfl (fun h51 => absurd h51 (by decide)) (fun h51 => ?_)
  refine m_iconst (pc' := 55) (v := 1) dX11_set_54 (by decide) rfl ?_
  refine m_goto (tgt := 59) dX11_set_55 (by decide) ?_
  refine m_istore_n (pc' := 60) dX11_set_59 (by decide) rfl rfl ?_
  refine m_iload_n (pc' := 61) dX11_set_60 rfl rfl ?_
  refine m_if_eq (tgt := 76) (pc' := 64) dX11_set_61 (by decide) rfl (fun h61 => absurd h61 (by decide)) (fun h61 => ?_)
  refine m_aload_n (pc' := 65) dX11_set_64 rfl rfl ?_
  refine m_bipush (pc' := 67) (v := 40) dX11_set_65 (by decide) rfl ?_
  refine m_iload_n (pc' := 68) dX11_set_67 rfl rfl ?_
  refine m_iadd (pc' := 69) dX11_set_68 rfl ?_
  show mM G mX11_set 69 [some (.ref 214), some (.int 2), some (.int v), some (.int 1)] [.int 42, .ref 214] S1 (u2 d.1 214 0 0, d.2) (0, 0) Q
  refine m_iload_n (pc' := 70) dX11_set_69 rfl rfl ?_
  refine m_callV (pc' := 73) (A := [.int 42, .int v]) (rest := []) (b := 214) cl_X11_set_119 dX11_set_70 rfl rfl (Nat.le_of_ble_eq_true rfl) ⟨by decide, by decide⟩ (by decide) rfl rfl rfl rfl ?_
  refine c_mput (A := A) (j := 42) hM0 (rfl) (by decide) (fun e e0 eM => ?_)
  show mM G mX11_set 73 [some (.ref 214), some (.int 2), some (.int v), some (.int 1)] [.int (a_s A 42)] S1 e (0, 0) Q
  refine m_goto (tgt := 78) dX11_set_73 (by decide) ?_
  refine m_iret dX11_set_78 rfl rfl ⟨by decide, by decide⟩ ?_
  exact hQ e (mfr.th.trans e0) eM
set_option maxHeartbeats 4000000 in
set_option maxRecDepth 100000 in
theorem p_setX {A : AS} {w v : Int32} (hM : MM d A) (w0 : ¬ w = 0) (w1 : ¬ w = 1) (w2 : ¬ w = 2) (hQ : ∀ d', mfr d d' → MM d' (opSet A w v).2 → Q (some (.int (opSet A w v).1)) S1 d') : mC G mX11_set [.ref 214, .int w, .int v] S1 d Q := by
  rw [show opSet A w v = (eI, A) from opSet_no (oset_X v w0 w1 w2)] at hQ
  refine mC_of (by decide +kernel) ⟨_, rfl⟩ (Nat.le_of_ble_eq_true rfl) ?_
  show mM G mX11_set 0 [some (.ref 214), some (.int w), some (.int v), none] [] S1 d (0, 0) Q
  refine m_aload_n (pc' := 1) dX11_set_0 rfl rfl ?_
  refine m_iconst (pc' := 2) (v := 0) dX11_set_1 (by decide) rfl ?_
  refine m_putI (pc' := 5) (ty := .int) fa_X11_set_29 dX11_set_2 (by decide +kernel) rfl rfl (by decide) rfl rfl rfl ?_
  refine m_iload_n (pc' := 6) dX11_set_5 rfl rfl ?_
  refine m_if_ne (tgt := 20) (pc' := 9) dX11_set_6 (by decide) rfl (fun h6 => ?_) (fun h6 => absurd h6 (w0))
  refine m_iload_n (pc' := 21) dX11_set_20 rfl rfl ?_
  refine m_iconst (pc' := 22) (v := 1) dX11_set_21 (by decide) rfl ?_
  refine m_icmp_ne (tgt := 38) (pc' := 25) dX11_set_22 (by decide) rfl (fun h22 => ?_) (fun h22 => absurd h22 (w1))
  refine m_iload_n (pc' := 39) dX11_set_38 rfl rfl ?_
  refine m_iconst (pc' := 40) (v := 2) dX11_set_39 (by decide) rfl ?_
  refine m_icmp_ne (tgt := 58) (pc' := 43) dX11_set_40 (by decide) rfl (fun h40 => ?_) (fun h40 => absurd h40 (w2))
  refine m_iconst (pc' := 59) (v := 0) dX11_set_58 (by decide) rfl ?_
  refine m_istore_n (pc' := 60) dX11_set_59 (by decide) rfl rfl ?_
  refine m_iload_n (pc' := 61) dX11_set_60 rfl rfl ?_
  refine m_if_eq (tgt := 76) (pc' := 64) dX11_set_61 (by decide) rfl (fun h61 => ?_) (fun h61 => absurd h61 (by decide))
  refine m_ldc (pc' := 78) dX11_set_76 kc_X11_set_111 rfl ?_
  refine m_iret dX11_set_78 rfl rfl ⟨by decide, by decide⟩ ?_
  exact hQ _ mfr.th hM.th
theorem p_set {A : AS} {w v : Int32} (hM : MM d A) (hQ : ∀ d', mfr d d' → MM d' (opSet A w v).2 → Q (some (.int (opSet A w v).1)) S1 d') : mC G mX11_set [.ref 214, .int w, .int v] S1 d Q := by
  by_cases w0 : w = 0
  · subst w0; exact p_set0 hM hQ
  by_cases w1 : w = 1
  · subst w1; exact p_set1 hM hQ
  by_cases w2 : w = 2
  · subst w2; exact p_set2 hM hQ
  exact p_setX hM w0 w1 w2 hQ
set_option maxHeartbeats 4000000 in
set_option maxRecDepth 100000 in
theorem p_addEntry {A : AS} {p q b : Int32} (hM : MM d A) (hO : OK A) (hQ : ∀ d', mfr d d' → MM d' (opAdd A p q b).2 → Q (some (.int (opAdd A p q b).1)) S1 d') : mC G mX11_addEntry [.ref 214, .int p, .int q, .int b] S1 d Q := by
  by_cases h1 : bin p 0 9 = 0
  · skip
    rw [show opAdd A p q b = (eI, A) from if_pos (Or.inl h1)] at hQ
    refine mC_of (by decide +kernel) ⟨_, rfl⟩ (Nat.le_of_ble_eq_true rfl) ?_
    show mM G mX11_addEntry 0 [some (.ref 214), some (.int p), some (.int q), some (.int b)] [] S1 d (0, 0) Q
    refine m_aload_n (pc' := 1) dX11_addEntry_0 rfl rfl ?_
    refine m_iconst (pc' := 2) (v := 0) dX11_addEntry_1 (by decide) rfl ?_
    refine m_putI (pc' := 5) (ty := .int) fa_X11_addEntry_29 dX11_addEntry_2 (by decide +kernel) rfl rfl (by decide) rfl rfl rfl ?_
    refine m_iload_n (pc' := 6) dX11_addEntry_5 rfl rfl ?_
    refine m_iconst (pc' := 7) (v := 0) dX11_addEntry_6 (by decide) rfl ?_
    refine m_bipush (pc' := 9) (v := 9) dX11_addEntry_7 (by decide) rfl ?_
    refine m_callS (pc' := 12) (A := [.int p, .int 0, .int 9]) (rest := []) cl_X11_addEntry_40 dX11_addEntry_9 rfl rfl (Nat.le_of_ble_eq_true rfl) ⟨by decide, by decide⟩ rfl rfl ?_
    refine c_in ?_
    show mM G mX11_addEntry 12 [some (.ref 214), some (.int p), some (.int q), some (.int b)] [.int (bin p 0 9)] S1 (u2 d.1 214 0 0, d.2) (0, 0) Q
    rw [show (bin p 0 9) = 0 from h1]
    refine m_if_eq (tgt := 40) (pc' := 15) dX11_addEntry_12 (by decide) rfl (fun h12 => ?_) (fun h12 => absurd h12 (by decide))
    refine m_ldc (pc' := 42) dX11_addEntry_40 kc_X11_addEntry_111 rfl ?_
    refine m_iret dX11_addEntry_42 rfl rfl ⟨by decide, by decide⟩ ?_
    exact hQ _ mfr.th hM.th
  by_cases h2 : bin q 0 7 = 0
  · skip
    rw [show opAdd A p q b = (eI, A) from if_pos (Or.inr (Or.inl h2))] at hQ
    refine mC_of (by decide +kernel) ⟨_, rfl⟩ (Nat.le_of_ble_eq_true rfl) ?_
    show mM G mX11_addEntry 0 [some (.ref 214), some (.int p), some (.int q), some (.int b)] [] S1 d (0, 0) Q
    refine m_aload_n (pc' := 1) dX11_addEntry_0 rfl rfl ?_
    refine m_iconst (pc' := 2) (v := 0) dX11_addEntry_1 (by decide) rfl ?_
    refine m_putI (pc' := 5) (ty := .int) fa_X11_addEntry_29 dX11_addEntry_2 (by decide +kernel) rfl rfl (by decide) rfl rfl rfl ?_
    refine m_iload_n (pc' := 6) dX11_addEntry_5 rfl rfl ?_
    refine m_iconst (pc' := 7) (v := 0) dX11_addEntry_6 (by decide) rfl ?_
    refine m_bipush (pc' := 9) (v := 9) dX11_addEntry_7 (by decide) rfl ?_
    refine m_callS (pc' := 12) (A := [.int p, .int 0, .int 9]) (rest := []) cl_X11_addEntry_40 dX11_addEntry_9 rfl rfl (Nat.le_of_ble_eq_true rfl) ⟨by decide, by decide⟩ rfl rfl ?_
    refine c_in ?_
    show mM G mX11_addEntry 12 [some (.ref 214), some (.int p), some (.int q), some (.int b)] [.int (bin p 0 9)] S1 (u2 d.1 214 0 0, d.2) (0, 0) Q
    rw [show (bin p 0 9) = 1 from bin_1 h1]
    refine m_if_eq (tgt := 40) (pc' := 15) dX11_addEntry_12 (by decide) rfl (fun h12 => absurd h12 (by decide)) (fun h12 => ?_)
    refine m_iload_n (pc' := 16) dX11_addEntry_15 rfl rfl ?_
    refine m_iconst (pc' := 17) (v := 0) dX11_addEntry_16 (by decide) rfl ?_
    refine m_bipush (pc' := 19) (v := 7) dX11_addEntry_17 (by decide) rfl ?_
    refine m_callS (pc' := 22) (A := [.int q, .int 0, .int 7]) (rest := []) cl_X11_addEntry_40 dX11_addEntry_19 rfl rfl (Nat.le_of_ble_eq_true rfl) ⟨by decide, by decide⟩ rfl rfl ?_
    refine c_in ?_
    show mM G mX11_addEntry 22 [some (.ref 214), some (.int p), some (.int q), some (.int b)] [.int (bin q 0 7)] S1 (u2 d.1 214 0 0, d.2) (0, 0) Q
    rw [show (bin q 0 7) = 0 from h2]
    refine m_if_eq (tgt := 40) (pc' := 25) dX11_addEntry_22 (by decide) rfl (fun h22 => ?_) (fun h22 => absurd h22 (by decide))
    refine m_ldc (pc' := 42) dX11_addEntry_40 kc_X11_addEntry_111 rfl ?_
    refine m_iret dX11_addEntry_42 rfl rfl ⟨by decide, by decide⟩ ?_
    exact hQ _ mfr.th hM.th
  have hs : d.1 215 = a_s A := hM.1
  by_cases h3 : bin b 0 (a_s A 43) = 0
  · skip
    rw [show opAdd A p q b = (eI, A) from if_pos (Or.inr (Or.inr h3))] at hQ
    refine mC_of (by decide +kernel) ⟨_, rfl⟩ (Nat.le_of_ble_eq_true rfl) ?_
    show mM G mX11_addEntry 0 [some (.ref 214), some (.int p), some (.int q), some (.int b)] [] S1 d (0, 0) Q
    refine m_aload_n (pc' := 1) dX11_addEntry_0 rfl rfl ?_
    refine m_iconst (pc' := 2) (v := 0) dX11_addEntry_1 (by decide) rfl ?_
    refine m_putI (pc' := 5) (ty := .int) fa_X11_addEntry_29 dX11_addEntry_2 (by decide +kernel) rfl rfl (by decide) rfl rfl rfl ?_
    refine m_iload_n (pc' := 6) dX11_addEntry_5 rfl rfl ?_
    refine m_iconst (pc' := 7) (v := 0) dX11_addEntry_6 (by decide) rfl ?_
    refine m_bipush (pc' := 9) (v := 9) dX11_addEntry_7 (by decide) rfl ?_
    refine m_callS (pc' := 12) (A := [.int p, .int 0, .int 9]) (rest := []) cl_X11_addEntry_40 dX11_addEntry_9 rfl rfl (Nat.le_of_ble_eq_true rfl) ⟨by decide, by decide⟩ rfl rfl ?_
    refine c_in ?_
    show mM G mX11_addEntry 12 [some (.ref 214), some (.int p), some (.int q), some (.int b)] [.int (bin p 0 9)] S1 (u2 d.1 214 0 0, d.2) (0, 0) Q
    rw [show (bin p 0 9) = 1 from bin_1 h1]
    refine m_if_eq (tgt := 40) (pc' := 15) dX11_addEntry_12 (by decide) rfl (fun h12 => absurd h12 (by decide)) (fun h12 => ?_)
    refine m_iload_n (pc' := 16) dX11_addEntry_15 rfl rfl ?_
    refine m_iconst (pc' := 17) (v := 0) dX11_addEntry_16 (by decide) rfl ?_
    refine m_bipush (pc' := 19) (v := 7) dX11_addEntry_17 (by decide) rfl ?_
    refine m_callS (pc' := 22) (A := [.int q, .int 0, .int 7]) (rest := []) cl_X11_addEntry_40 dX11_addEntry_19 rfl rfl (Nat.le_of_ble_eq_true rfl) ⟨by decide, by decide⟩ rfl rfl ?_
    refine c_in ?_
    show mM G mX11_addEntry 22 [some (.ref 214), some (.int p), some (.int q), some (.int b)] [.int (bin q 0 7)] S1 (u2 d.1 214 0 0, d.2) (0, 0) Q
    rw [show (bin q 0 7) = 1 from bin_1 h2]
    refine m_if_eq (tgt := 40) (pc' := 25) dX11_addEntry_22 (by decide) rfl (fun h22 => absurd h22 (by decide)) (fun h22 => ?_)
    refine m_iload_n (pc' := 26) dX11_addEntry_25 rfl rfl ?_
    refine m_iconst (pc' := 27) (v := 0) dX11_addEntry_26 (by decide) rfl ?_
    refine m_aload_n (pc' := 28) dX11_addEntry_27 rfl rfl ?_
    refine m_getR (pc' := 31) fa_X11_addEntry_7 dX11_addEntry_28 (by decide) rfl rfl rfl rfl ?_
    refine m_bipush (pc' := 33) (v := 43) dX11_addEntry_31 (by decide) rfl ?_
    refine m_ialdN (pc' := 34) (j := 43) (L := 408) dX11_addEntry_33 (by decide) rfl rfl (rfl) (by decide) (by decide) rfl ?_
    show mM G mX11_addEntry 34 [some (.ref 214), some (.int p), some (.int q), some (.int b)] [.int (d.1 215 43), .int 0, .int b] S1 (u2 d.1 214 0 0, d.2) (0, 0) Q
    rw [show (d.1 215 43) = ((a_s A) 43) from congrFun hs 43]
    refine m_callS (pc' := 37) (A := [.int b, .int 0, .int ((a_s A) 43)]) (rest := []) cl_X11_addEntry_40 dX11_addEntry_34 rfl rfl (Nat.le_of_ble_eq_true rfl) ⟨by decide, by decide⟩ rfl rfl ?_
    refine c_in ?_
    show mM G mX11_addEntry 37 [some (.ref 214), some (.int p), some (.int q), some (.int b)] [.int (bin b 0 ((a_s A) 43))] S1 (u2 d.1 214 0 0, d.2) (0, 0) Q
    rw [show (bin b 0 ((a_s A) 43)) = 0 from h3]
    refine m_if_ne (tgt := 43) (pc' := 40) dX11_addEntry_37 (by decide) rfl (fun h37 => absurd h37 (by decide)) (fun h37 => ?_)
    refine m_ldc (pc' := 42) dX11_addEntry_40 kc_X11_addEntry_111 rfl ?_
    refine m_iret dX11_addEntry_42 rfl rfl ⟨by decide, by decide⟩ ?_
    exact hQ _ mfr.th hM.th
  have hx : ¬ (bin p 0 9 = 0 ∨ bin q 0 7 = 0 ∨ bin b 0 (a_s A 43) = 0) := not_or.mpr ⟨h1, not_or.mpr ⟨h2, h3⟩⟩
  by_cases h4 : a_s A 43 = 16
  · skip
    rw [show opAdd A p q b = (eC, A) from by unfold opAdd; rw [if_neg hx, if_pos h4]] at hQ
    refine mC_of (by decide +kernel) ⟨_, rfl⟩ (Nat.le_of_ble_eq_true rfl) ?_
    show mM G mX11_addEntry 0 [some (.ref 214), some (.int p), some (.int q), some (.int b)] [] S1 d (0, 0) Q
    refine m_aload_n (pc' := 1) dX11_addEntry_0 rfl rfl ?_
    refine m_iconst (pc' := 2) (v := 0) dX11_addEntry_1 (by decide) rfl ?_
    refine m_putI (pc' := 5) (ty := .int) fa_X11_addEntry_29 dX11_addEntry_2 (by decide +kernel) rfl rfl (by decide) rfl rfl rfl ?_
    refine m_iload_n (pc' := 6) dX11_addEntry_5 rfl rfl ?_
    refine m_iconst (pc' := 7) (v := 0) dX11_addEntry_6 (by decide) rfl ?_
    refine m_bipush (pc' := 9) (v := 9) dX11_addEntry_7 (by decide) rfl ?_
    refine m_callS (pc' := 12) (A := [.int p, .int 0, .int 9]) (rest := []) cl_X11_addEntry_40 dX11_addEntry_9 rfl rfl (Nat.le_of_ble_eq_true rfl) ⟨by decide, by decide⟩ rfl rfl ?_
    refine c_in ?_
    show mM G mX11_addEntry 12 [some (.ref 214), some (.int p), some (.int q), some (.int b)] [.int (bin p 0 9)] S1 (u2 d.1 214 0 0, d.2) (0, 0) Q
    rw [show (bin p 0 9) = 1 from bin_1 h1]
    refine m_if_eq (tgt := 40) (pc' := 15) dX11_addEntry_12 (by decide) rfl (fun h12 => absurd h12 (by decide)) (fun h12 => ?_)
    refine m_iload_n (pc' := 16) dX11_addEntry_15 rfl rfl ?_
    refine m_iconst (pc' := 17) (v := 0) dX11_addEntry_16 (by decide) rfl ?_
    refine m_bipush (pc' := 19) (v := 7) dX11_addEntry_17 (by decide) rfl ?_
    refine m_callS (pc' := 22) (A := [.int q, .int 0, .int 7]) (rest := []) cl_X11_addEntry_40 dX11_addEntry_19 rfl rfl (Nat.le_of_ble_eq_true rfl) ⟨by decide, by decide⟩ rfl rfl ?_
    refine c_in ?_
    show mM G mX11_addEntry 22 [some (.ref 214), some (.int p), some (.int q), some (.int b)] [.int (bin q 0 7)] S1 (u2 d.1 214 0 0, d.2) (0, 0) Q
    rw [show (bin q 0 7) = 1 from bin_1 h2]
    refine m_if_eq (tgt := 40) (pc' := 25) dX11_addEntry_22 (by decide) rfl (fun h22 => absurd h22 (by decide)) (fun h22 => ?_)
    refine m_iload_n (pc' := 26) dX11_addEntry_25 rfl rfl ?_
    refine m_iconst (pc' := 27) (v := 0) dX11_addEntry_26 (by decide) rfl ?_
    refine m_aload_n (pc' := 28) dX11_addEntry_27 rfl rfl ?_
    refine m_getR (pc' := 31) fa_X11_addEntry_7 dX11_addEntry_28 (by decide) rfl rfl rfl rfl ?_
    refine m_bipush (pc' := 33) (v := 43) dX11_addEntry_31 (by decide) rfl ?_
    refine m_ialdN (pc' := 34) (j := 43) (L := 408) dX11_addEntry_33 (by decide) rfl rfl (rfl) (by decide) (by decide) rfl ?_
    show mM G mX11_addEntry 34 [some (.ref 214), some (.int p), some (.int q), some (.int b)] [.int (d.1 215 43), .int 0, .int b] S1 (u2 d.1 214 0 0, d.2) (0, 0) Q
    rw [show (d.1 215 43) = ((a_s A) 43) from congrFun hs 43]
    refine m_callS (pc' := 37) (A := [.int b, .int 0, .int ((a_s A) 43)]) (rest := []) cl_X11_addEntry_40 dX11_addEntry_34 rfl rfl (Nat.le_of_ble_eq_true rfl) ⟨by decide, by decide⟩ rfl rfl ?_
    refine c_in ?_
    show mM G mX11_addEntry 37 [some (.ref 214), some (.int p), some (.int q), some (.int b)] [.int (bin b 0 ((a_s A) 43))] S1 (u2 d.1 214 0 0, d.2) (0, 0) Q
    rw [show (bin b 0 ((a_s A) 43)) = 1 from bin_1 h3]
    refine m_if_ne (tgt := 43) (pc' := 40) dX11_addEntry_37 (by decide) rfl (fun h37 => ?_) (fun h37 => absurd h37 (by decide))
    refine m_aload_n (pc' := 44) dX11_addEntry_43 rfl rfl ?_
    refine m_getR (pc' := 47) fa_X11_addEntry_7 dX11_addEntry_44 (by decide) rfl rfl rfl rfl ?_
    refine m_bipush (pc' := 49) (v := 43) dX11_addEntry_47 (by decide) rfl ?_
    refine m_ialdN (pc' := 50) (j := 43) (L := 408) dX11_addEntry_49 (by decide) rfl rfl (rfl) (by decide) (by decide) rfl ?_
    show mM G mX11_addEntry 50 [some (.ref 214), some (.int p), some (.int q), some (.int b)] [.int (d.1 215 43)] S1 (u2 d.1 214 0 0, d.2) (0, 0) Q
    rw [show (d.1 215 43) = ((a_s A) 43) from congrFun hs 43]
    refine m_bipush (pc' := 52) (v := 16) dX11_addEntry_50 (by decide) rfl ?_
    refine m_icmp_ne (tgt := 58) (pc' := 55) dX11_addEntry_52 (by decide) rfl (fun h52 => (h52 h4).elim) (fun h52 => ?_)
    refine m_ldc (pc' := 57) dX11_addEntry_55 kc_X11_addEntry_122 rfl ?_
    refine m_iret dX11_addEntry_57 rfl rfl ⟨by decide, by decide⟩ ?_
    exact hQ _ mfr.th hM.th
  have hM0 := hM.th
  obtain ⟨n, hl⟩ := hO.l
  have e43 := hl.2.1
  have hn16 := hl.1
  have hn15 : n < 16 := by
    have : n ≠ 16 := fun h => h4 (by rw [e43, h]; rfl)
    omega
  obtain ⟨b, hbn, rfl⟩ := bin_t (b := n) (by omega) (by rw [← e43]; exact h3)
  rw [show opAdd A p q (nI b) = (nI (n + 1), rec A (ins (a_s A) n b p q) (a_h A)) from by unfold opAdd; rw [if_neg hx, if_neg h4, e43, nn_nI (by omega), nn_nI (by omega)]] at hQ
  refine mC_of (by decide +kernel) ⟨_, rfl⟩ (Nat.le_of_ble_eq_true rfl) ?_
  show mM G mX11_addEntry 0 [some (.ref 214), some (.int p), some (.int q), some (.int (nI b))] [] S1 d (0, 0) Q
  refine m_aload_n (pc' := 1) dX11_addEntry_0 rfl rfl ?_
  refine m_iconst (pc' := 2) (v := 0) dX11_addEntry_1 (by decide) rfl ?_
  refine m_putI (pc' := 5) (ty := .int) fa_X11_addEntry_29 dX11_addEntry_2 (by decide +kernel) rfl rfl (by decide) rfl rfl rfl ?_
  refine m_iload_n (pc' := 6) dX11_addEntry_5 rfl rfl ?_
  refine m_iconst (pc' := 7) (v := 0) dX11_addEntry_6 (by decide) rfl ?_
  refine m_bipush (pc' := 9) (v := 9) dX11_addEntry_7 (by decide) rfl ?_
  refine m_callS (pc' := 12) (A := [.int p, .int 0, .int 9]) (rest := []) cl_X11_addEntry_40 dX11_addEntry_9 rfl rfl (Nat.le_of_ble_eq_true rfl) ⟨by decide, by decide⟩ rfl rfl ?_
  refine c_in ?_
  show mM G mX11_addEntry 12 [some (.ref 214), some (.int p), some (.int q), some (.int (nI b))] [.int (bin p 0 9)] S1 (u2 d.1 214 0 0, d.2) (0, 0) Q
  rw [show (bin p 0 9) = 1 from bin_1 h1]
  refine m_if_eq (tgt := 40) (pc' := 15) dX11_addEntry_12 (by decide) rfl (fun h12 => absurd h12 (by decide)) (fun h12 => ?_)
  refine m_iload_n (pc' := 16) dX11_addEntry_15 rfl rfl ?_
  refine m_iconst (pc' := 17) (v := 0) dX11_addEntry_16 (by decide) rfl ?_
  refine m_bipush (pc' := 19) (v := 7) dX11_addEntry_17 (by decide) rfl ?_
  refine m_callS (pc' := 22) (A := [.int q, .int 0, .int 7]) (rest := []) cl_X11_addEntry_40 dX11_addEntry_19 rfl rfl (Nat.le_of_ble_eq_true rfl) ⟨by decide, by decide⟩ rfl rfl ?_
  refine c_in ?_
  show mM G mX11_addEntry 22 [some (.ref 214), some (.int p), some (.int q), some (.int (nI b))] [.int (bin q 0 7)] S1 (u2 d.1 214 0 0, d.2) (0, 0) Q
  rw [show (bin q 0 7) = 1 from bin_1 h2]
  refine m_if_eq (tgt := 40) (pc' := 25) dX11_addEntry_22 (by decide) rfl (fun h22 => absurd h22 (by decide)) (fun h22 => ?_)
  refine m_iload_n (pc' := 26) dX11_addEntry_25 rfl rfl ?_
  refine m_iconst (pc' := 27) (v := 0) dX11_addEntry_26 (by decide) rfl ?_
  refine m_aload_n (pc' := 28) dX11_addEntry_27 rfl rfl ?_
  refine m_getR (pc' := 31) fa_X11_addEntry_7 dX11_addEntry_28 (by decide) rfl rfl rfl rfl ?_
  refine m_bipush (pc' := 33) (v := 43) dX11_addEntry_31 (by decide) rfl ?_
  refine m_ialdN (pc' := 34) (j := 43) (L := 408) dX11_addEntry_33 (by decide) rfl rfl (rfl) (by decide) (by decide) rfl ?_
  show mM G mX11_addEntry 34 [some (.ref 214), some (.int p), some (.int q), some (.int (nI b))] [.int (d.1 215 43), .int 0, .int (nI b)] S1 (u2 d.1 214 0 0, d.2) (0, 0) Q
  rw [show (d.1 215 43) = ((a_s A) 43) from congrFun hs 43]
  refine m_callS (pc' := 37) (A := [.int (nI b), .int 0, .int ((a_s A) 43)]) (rest := []) cl_X11_addEntry_40 dX11_addEntry_34 rfl rfl (Nat.le_of_ble_eq_true rfl) ⟨by decide, by decide⟩ rfl rfl ?_
  refine c_in ?_
  show mM G mX11_addEntry 37 [some (.ref 214), some (.int p), some (.int q), some (.int (nI b))] [.int (bin (nI b) 0 ((a_s A) 43))] S1 (u2 d.1 214 0 0, d.2) (0, 0) Q
  rw [show (bin (nI b) 0 ((a_s A) 43)) = 1 from bin_1 h3]
  refine m_if_ne (tgt := 43) (pc' := 40) dX11_addEntry_37 (by decide) rfl (fun h37 => ?_) (fun h37 => absurd h37 (by decide))
  refine m_aload_n (pc' := 44) dX11_addEntry_43 rfl rfl ?_
  refine m_getR (pc' := 47) fa_X11_addEntry_7 dX11_addEntry_44 (by decide) rfl rfl rfl rfl ?_
  refine m_bipush (pc' := 49) (v := 43) dX11_addEntry_47 (by decide) rfl ?_
  refine m_ialdN (pc' := 50) (j := 43) (L := 408) dX11_addEntry_49 (by decide) rfl rfl (rfl) (by decide) (by decide) rfl ?_
  show mM G mX11_addEntry 50 [some (.ref 214), some (.int p), some (.int q), some (.int (nI b))] [.int (d.1 215 43)] S1 (u2 d.1 214 0 0, d.2) (0, 0) Q
  rw [show (d.1 215 43) = ((a_s A) 43) from congrFun hs 43]
  refine m_bipush (pc' := 52) (v := 16) dX11_addEntry_50 (by decide) rfl ?_
  refine m_icmp_ne (tgt := 58) (pc' := 55) dX11_addEntry_52 (by decide) rfl (fun h52 => ?_) (fun h52 => absurd h52 (h4))
  refine m_aload_n (pc' := 59) dX11_addEntry_58 rfl rfl ?_
  refine m_callV (pc' := 62) (A := []) (rest := []) (b := 214) cl_X11_addEntry_112 dX11_addEntry_59 rfl rfl (Nat.le_of_ble_eq_true rfl) ⟨by decide, by decide⟩ (by decide) rfl rfl rfl rfl ?_
  refine c_mact (s := a_s A) (h := a_h A) hM0.1 hM0.2.1 hM0.2.2.1 hM0.2.2.2.1 hM0.2.2.2.2.1 hM0.2.2.2.2.2.1 (fun g g0 g1 g2 g3 => ?_)
  show mM G mX11_addEntry 62 [some (.ref 214), some (.int p), some (.int q), some (.int (nI b))] [] S1 g (0, 0) Q
  have gM := hM0.act g0 g1 g2 g3
  have hs : g.1 215 = a_s A := gM.1
  refine m_aload_n (pc' := 63) dX11_addEntry_62 rfl rfl ?_
  refine m_iload_n (pc' := 64) dX11_addEntry_63 rfl rfl ?_
  refine m_iload_n (pc' := 65) dX11_addEntry_64 rfl rfl ?_
  refine m_iload_n (pc' := 66) dX11_addEntry_65 rfl rfl ?_
  refine m_callV (pc' := 69) (A := [.int p, .int q, .int (nI b)]) (rest := []) (b := 214) cl_X11_addEntry_123 dX11_addEntry_66 rfl rfl (Nat.le_of_ble_eq_true rfl) ⟨by decide, by decide⟩ (by decide) rfl rfl rfl rfl ?_
  refine c_minsert (n := n) (b := b) (s := a_s A) hs e43 hbn (by omega) (fun f f0 f1 => ?_)
  show mM G mX11_addEntry 69 [some (.ref 214), some (.int p), some (.int q), some (.int (nI b))] [] S1 f (0, 0) Q
  refine m_aload_n (pc' := 70) dX11_addEntry_69 rfl rfl ?_
  refine m_getR (pc' := 73) fa_X11_addEntry_7 dX11_addEntry_70 (by decide) rfl rfl rfl rfl ?_
  refine m_bipush (pc' := 75) (v := 43) dX11_addEntry_73 (by decide) rfl ?_
  refine m_ialdN (pc' := 76) (j := 43) (L := 408) dX11_addEntry_75 (by decide) rfl rfl (rfl) (by decide) (by decide) rfl ?_
  rw [show (f.1 215 43) = (nI (n + 1)) from (congrFun f1 43).trans (show ins (a_s A) n b p q 43 = nI (n + 1) from if_pos rfl)]
  refine m_iret dX11_addEntry_76 rfl rfl ⟨by decide, by decide⟩ ?_
  exact hQ f ((mfr.th.trans (act_mf g0)).trans (row_mf f0)) (gM.row f0 f1)
set_option maxHeartbeats 4000000 in
set_option maxRecDepth 100000 in
theorem p_removeEntry {A : AS} {x : Int32} (hM : MM d A) (hO : OK A) (hQ : ∀ d', mfr d d' → MM d' (opRem A x).2 → Q (some (.int (opRem A x).1)) S1 d') : mC G mX11_removeEntry [.ref 214, .int x] S1 d Q := by
  have hs : d.1 215 = a_s A := hM.1
  by_cases h1 : bin x 0 (a_s A 43 - 1) = 0
  · skip
    rw [show opRem A x = (eI, A) from if_pos h1] at hQ
    refine mC_of (by decide +kernel) ⟨_, rfl⟩ (Nat.le_of_ble_eq_true rfl) ?_
    show mM G mX11_removeEntry 0 [some (.ref 214), some (.int x), none] [] S1 d (0, 0) Q
    refine m_aload_n (pc' := 1) dX11_removeEntry_0 rfl rfl ?_
    refine m_iconst (pc' := 2) (v := 0) dX11_removeEntry_1 (by decide) rfl ?_
    refine m_putI (pc' := 5) (ty := .int) fa_X11_removeEntry_29 dX11_removeEntry_2 (by decide +kernel) rfl rfl (by decide) rfl rfl rfl ?_
    refine m_aload_n (pc' := 6) dX11_removeEntry_5 rfl rfl ?_
    refine m_iload_n (pc' := 7) dX11_removeEntry_6 rfl rfl ?_
    refine m_callV (pc' := 10) (A := [.int x]) (rest := []) (b := 214) cl_X11_removeEntry_127 dX11_removeEntry_7 rfl rfl (Nat.le_of_ble_eq_true rfl) ⟨by decide, by decide⟩ (by decide) rfl rfl rfl rfl ?_
    refine c_ment (s := a_s A) hs ?_
    show mM G mX11_removeEntry 10 [some (.ref 214), some (.int x), none] [.int (bin x 0 ((a_s A) 43 - 1))] S1 (u2 d.1 214 0 0, d.2) (0, 0) Q
    rw [show (bin x 0 ((a_s A) 43 - 1)) = 0 from h1]
    refine m_if_ne (tgt := 16) (pc' := 13) dX11_removeEntry_10 (by decide) rfl (fun h10 => absurd h10 (by decide)) (fun h10 => ?_)
    refine m_ldc (pc' := 15) dX11_removeEntry_13 kc_X11_removeEntry_111 rfl ?_
    refine m_iret dX11_removeEntry_15 rfl rfl ⟨by decide, by decide⟩ ?_
    exact hQ _ mfr.th hM.th
  have hM0 := hM.th
  obtain ⟨n, hl⟩ := hO.l
  have e43 := hl.2.1
  have hn16 := hl.1
  obtain ⟨x, hxn, rfl⟩ := bin_e (n := n) (by omega) (by rw [← e43]; exact h1)
  rw [show opRem A (nI x) = (nI (n - 1), rec A (rem (a_s A) n x) (a_h A)) from by unfold opRem; rw [if_neg h1, e43, nn_nI (by omega), nn_nI (by omega)]] at hQ
  have J : ∀ (n0 : Nat) (k : Nat) (d1 : Dt) (_ : k + n0 = 44 + 2 * (n - 1)) (_ : 44 + 2 * x ≤ k) (_ : mfr d d1) (_ : MM d1 (rec A (rmf (a_s A) n x k) (a_h A))), mM G mX11_removeEntry 38 [some (.ref 214), some (.int (nI x)), some (.int (nI k))] [] S1 d1 (0, 0) Q := by
    intro n0
    induction n0 with
    | zero =>
      intro k d1 hk hkx hd hM1
      refine m_iload_n (pc' := 39) dX11_removeEntry_38 rfl rfl ?_
      refine m_bipush (pc' := 41) (v := 44) dX11_removeEntry_39 (by decide) rfl ?_
      refine m_iconst (pc' := 42) (v := 2) dX11_removeEntry_41 (by decide) rfl ?_
      refine m_aload_n (pc' := 43) dX11_removeEntry_42 rfl rfl ?_
      refine m_getR (pc' := 46) fa_X11_removeEntry_7 dX11_removeEntry_43 (by decide) rfl rfl rfl rfl ?_
      refine m_bipush (pc' := 48) (v := 43) dX11_removeEntry_46 (by decide) rfl ?_
      refine m_ialdN (pc' := 49) (j := 43) (L := 408) dX11_removeEntry_48 (by decide) rfl rfl (rfl) (by decide) (by decide) rfl ?_
      rw [show (d1.1 215 43) = (nI (n - 1)) from (congrFun hM1.1 43).trans (show rmf (a_s A) n x k 43 = nI (n - 1) from if_pos rfl)]
      refine m_imul (pc' := 50) dX11_removeEntry_49 rfl ?_
      refine m_iadd (pc' := 51) dX11_removeEntry_50 rfl ?_
      rw [show (44 + (2 * (nI (n - 1)))) = (nI (44 + 2 * (n - 1))) from ix_e (n - 1)]
      refine m_icmp_ge (tgt := 74) (pc' := 54) dX11_removeEntry_51 (by decide) rfl (fun h51 => ?_) (fun h51 => (h51 (nI_le (by omega) (by omega))).elim)
      refine m_aload_n (pc' := 75) dX11_removeEntry_74 rfl rfl ?_
      refine m_getR (pc' := 78) fa_X11_removeEntry_7 dX11_removeEntry_75 (by decide) rfl rfl rfl rfl ?_
      refine m_bipush (pc' := 80) (v := 43) dX11_removeEntry_78 (by decide) rfl ?_
      refine m_ialdN (pc' := 81) (j := 43) (L := 408) dX11_removeEntry_80 (by decide) rfl rfl (rfl) (by decide) (by decide) rfl ?_
      rw [show (d1.1 215 43) = (nI (n - 1)) from (congrFun hM1.1 43).trans (show rmf (a_s A) n x k 43 = nI (n - 1) from if_pos rfl)]
      refine m_iret dX11_removeEntry_81 rfl rfl ⟨by decide, by decide⟩ ?_
      obtain rfl : k = 44 + 2 * (n - 1) := by omega
      exact hQ d1 hd hM1
    | succ n0 ih =>
      intro k d1 hk hkx hd hM1
      refine m_iload_n (pc' := 39) dX11_removeEntry_38 rfl rfl ?_
      refine m_bipush (pc' := 41) (v := 44) dX11_removeEntry_39 (by decide) rfl ?_
      refine m_iconst (pc' := 42) (v := 2) dX11_removeEntry_41 (by decide) rfl ?_
      refine m_aload_n (pc' := 43) dX11_removeEntry_42 rfl rfl ?_
      refine m_getR (pc' := 46) fa_X11_removeEntry_7 dX11_removeEntry_43 (by decide) rfl rfl rfl rfl ?_
      refine m_bipush (pc' := 48) (v := 43) dX11_removeEntry_46 (by decide) rfl ?_
      refine m_ialdN (pc' := 49) (j := 43) (L := 408) dX11_removeEntry_48 (by decide) rfl rfl (rfl) (by decide) (by decide) rfl ?_
      rw [show (d1.1 215 43) = (nI (n - 1)) from (congrFun hM1.1 43).trans (show rmf (a_s A) n x k 43 = nI (n - 1) from if_pos rfl)]
      refine m_imul (pc' := 50) dX11_removeEntry_49 rfl ?_
      refine m_iadd (pc' := 51) dX11_removeEntry_50 rfl ?_
      rw [show (44 + (2 * (nI (n - 1)))) = (nI (44 + 2 * (n - 1))) from ix_e (n - 1)]
      refine m_icmp_ge (tgt := 74) (pc' := 54) dX11_removeEntry_51 (by decide) rfl (fun h51 => absurd h51 (nI_ge (by omega) (by omega))) (fun h51 => ?_)
      refine m_aload_n (pc' := 55) dX11_removeEntry_54 rfl rfl ?_
      refine m_getR (pc' := 58) fa_X11_removeEntry_7 dX11_removeEntry_55 (by decide) rfl rfl rfl rfl ?_
      refine m_iload_n (pc' := 59) dX11_removeEntry_58 rfl rfl ?_
      refine m_aload_n (pc' := 60) dX11_removeEntry_59 rfl rfl ?_
      refine m_getR (pc' := 63) fa_X11_removeEntry_7 dX11_removeEntry_60 (by decide) rfl rfl rfl rfl ?_
      refine m_iload_n (pc' := 64) dX11_removeEntry_63 rfl rfl ?_
      refine m_iconst (pc' := 65) (v := 2) dX11_removeEntry_64 (by decide) rfl ?_
      refine m_iadd (pc' := 66) dX11_removeEntry_65 rfl ?_
      refine m_ialdN (pc' := 67) (j := k + 2) (L := 408) dX11_removeEntry_66 (by decide) rfl rfl (nI_add k 2) (by omega) (by decide) rfl ?_
      rw [show (d1.1 215 (k + 2)) = (a_s A (k + 2)) from (congrFun hM1.1 (k + 2)).trans (rmf_hi (by omega) (by omega))]
      refine m_iastN (pc' := 68) (j := k) (L := 408) dX11_removeEntry_67 (by decide) rfl rfl (rfl) (by omega) (by decide) rfl ?_
      refine m_iinc (pc' := 71) dX11_removeEntry_68 rfl (by decide) (v := nI (k + 1)) (nI_1 k) rfl rfl ?_
      refine m_goto (tgt := 38) dX11_removeEntry_71 (by decide) ?_
      exact ih (k + 1) _ (by omega) (by omega) (mfr_put hd) (hM1.put (rmf_s (a_s A) n x k hkx))
  refine mC_of (by decide +kernel) ⟨_, rfl⟩ (Nat.le_of_ble_eq_true rfl) ?_
  show mM G mX11_removeEntry 0 [some (.ref 214), some (.int (nI x)), none] [] S1 d (0, 0) Q
  refine m_aload_n (pc' := 1) dX11_removeEntry_0 rfl rfl ?_
  refine m_iconst (pc' := 2) (v := 0) dX11_removeEntry_1 (by decide) rfl ?_
  refine m_putI (pc' := 5) (ty := .int) fa_X11_removeEntry_29 dX11_removeEntry_2 (by decide +kernel) rfl rfl (by decide) rfl rfl rfl ?_
  refine m_aload_n (pc' := 6) dX11_removeEntry_5 rfl rfl ?_
  refine m_iload_n (pc' := 7) dX11_removeEntry_6 rfl rfl ?_
  refine m_callV (pc' := 10) (A := [.int (nI x)]) (rest := []) (b := 214) cl_X11_removeEntry_127 dX11_removeEntry_7 rfl rfl (Nat.le_of_ble_eq_true rfl) ⟨by decide, by decide⟩ (by decide) rfl rfl rfl rfl ?_
  refine c_ment (s := a_s A) hs ?_
  show mM G mX11_removeEntry 10 [some (.ref 214), some (.int (nI x)), none] [.int (bin (nI x) 0 ((a_s A) 43 - 1))] S1 (u2 d.1 214 0 0, d.2) (0, 0) Q
  rw [show (bin (nI x) 0 ((a_s A) 43 - 1)) = 1 from bin_1 h1]
  refine m_if_ne (tgt := 16) (pc' := 13) dX11_removeEntry_10 (by decide) rfl (fun h10 => ?_) (fun h10 => absurd h10 (by decide))
  refine m_aload_n (pc' := 17) dX11_removeEntry_16 rfl rfl ?_
  refine m_callV (pc' := 20) (A := []) (rest := []) (b := 214) cl_X11_removeEntry_112 dX11_removeEntry_17 rfl rfl (Nat.le_of_ble_eq_true rfl) ⟨by decide, by decide⟩ (by decide) rfl rfl rfl rfl ?_
  refine c_mact (s := a_s A) (h := a_h A) hM0.1 hM0.2.1 hM0.2.2.1 hM0.2.2.2.1 hM0.2.2.2.2.1 hM0.2.2.2.2.2.1 (fun g g0 g1 g2 g3 => ?_)
  show mM G mX11_removeEntry 20 [some (.ref 214), some (.int (nI x)), none] [] S1 g (0, 0) Q
  have gM := hM0.act g0 g1 g2 g3
  have hs : g.1 215 = a_s A := gM.1
  refine m_aload_n (pc' := 21) dX11_removeEntry_20 rfl rfl ?_
  refine m_getR (pc' := 24) fa_X11_removeEntry_7 dX11_removeEntry_21 (by decide) rfl rfl rfl rfl ?_
  refine m_bipush (pc' := 26) (v := 43) dX11_removeEntry_24 (by decide) rfl ?_
  refine m_dup2 (pc' := 27) dX11_removeEntry_26 rfl ?_
  refine m_ialdN (pc' := 28) (j := 43) (L := 408) dX11_removeEntry_27 (by decide) rfl rfl (rfl) (by decide) (by decide) rfl ?_
  rw [show (g.1 215 43) = (nI n) from (congrFun hs 43).trans e43]
  refine m_iconst (pc' := 29) (v := 1) dX11_removeEntry_28 (by decide) rfl ?_
  refine m_isub (pc' := 30) dX11_removeEntry_29 rfl ?_
  rw [show ((nI n) - 1) = (nI (n - 1)) from (by rw [show n = (n - 1) + 1 by omega, nI_pred]; rfl)]
  refine m_iastN (pc' := 31) (j := 43) (L := 408) dX11_removeEntry_30 (by decide) rfl rfl (rfl) (by decide) (by decide) rfl ?_
  refine m_bipush (pc' := 33) (v := 44) dX11_removeEntry_31 (by decide) rfl ?_
  refine m_iconst (pc' := 34) (v := 2) dX11_removeEntry_33 (by decide) rfl ?_
  refine m_iload_n (pc' := 35) dX11_removeEntry_34 rfl rfl ?_
  refine m_imul (pc' := 36) dX11_removeEntry_35 rfl ?_
  refine m_iadd (pc' := 37) dX11_removeEntry_36 rfl ?_
  rw [show (44 + (2 * (nI x))) = (nI (44 + 2 * x)) from ix_e x]
  refine m_istore_n (pc' := 38) dX11_removeEntry_37 (by decide) rfl rfl ?_
  exact J (2 * (n - 1) - 2 * x) (44 + 2 * x) _ (by omega) (by omega) (mfr_put (mfr.th.trans (act_mf g0))) (gM.put (rmf_0 (a_s A) n x))
set_option maxHeartbeats 4000000 in
set_option maxRecDepth 100000 in
theorem p_setSettle {A : AS} {x q : Int32} (hM : MM d A) (hO : OK A) (hQ : ∀ d', mfr d d' → MM d' (opSettle A x q).2 → Q (some (.int (opSettle A x q).1)) S1 d') : mC G mX11_setSettle [.ref 214, .int x, .int q] S1 d Q := by
  have hs : d.1 215 = a_s A := hM.1
  by_cases h1 : bin x 0 (a_s A 43 - 1) = 0
  · skip
    rw [show opSettle A x q = (eI, A) from if_pos (Or.inl h1)] at hQ
    refine mC_of (by decide +kernel) ⟨_, rfl⟩ (Nat.le_of_ble_eq_true rfl) ?_
    show mM G mX11_setSettle 0 [some (.ref 214), some (.int x), some (.int q)] [] S1 d (0, 0) Q
    refine m_aload_n (pc' := 1) dX11_setSettle_0 rfl rfl ?_
    refine m_iconst (pc' := 2) (v := 0) dX11_setSettle_1 (by decide) rfl ?_
    refine m_putI (pc' := 5) (ty := .int) fa_X11_setSettle_29 dX11_setSettle_2 (by decide +kernel) rfl rfl (by decide) rfl rfl rfl ?_
    refine m_aload_n (pc' := 6) dX11_setSettle_5 rfl rfl ?_
    refine m_iload_n (pc' := 7) dX11_setSettle_6 rfl rfl ?_
    refine m_callV (pc' := 10) (A := [.int x]) (rest := []) (b := 214) cl_X11_setSettle_127 dX11_setSettle_7 rfl rfl (Nat.le_of_ble_eq_true rfl) ⟨by decide, by decide⟩ (by decide) rfl rfl rfl rfl ?_
    refine c_ment (s := a_s A) hs ?_
    show mM G mX11_setSettle 10 [some (.ref 214), some (.int x), some (.int q)] [.int (bin x 0 ((a_s A) 43 - 1))] S1 (u2 d.1 214 0 0, d.2) (0, 0) Q
    rw [show (bin x 0 ((a_s A) 43 - 1)) = 0 from h1]
    refine m_if_eq (tgt := 39) (pc' := 13) dX11_setSettle_10 (by decide) rfl (fun h10 => ?_) (fun h10 => absurd h10 (by decide))
    refine m_ldc (pc' := 41) dX11_setSettle_39 kc_X11_setSettle_111 rfl ?_
    refine m_iret dX11_setSettle_41 rfl rfl ⟨by decide, by decide⟩ ?_
    exact hQ _ mfr.th hM.th
  by_cases h2 : bin q 0 7 = 0
  · skip
    rw [show opSettle A x q = (eI, A) from if_pos (Or.inr h2)] at hQ
    refine mC_of (by decide +kernel) ⟨_, rfl⟩ (Nat.le_of_ble_eq_true rfl) ?_
    show mM G mX11_setSettle 0 [some (.ref 214), some (.int x), some (.int q)] [] S1 d (0, 0) Q
    refine m_aload_n (pc' := 1) dX11_setSettle_0 rfl rfl ?_
    refine m_iconst (pc' := 2) (v := 0) dX11_setSettle_1 (by decide) rfl ?_
    refine m_putI (pc' := 5) (ty := .int) fa_X11_setSettle_29 dX11_setSettle_2 (by decide +kernel) rfl rfl (by decide) rfl rfl rfl ?_
    refine m_aload_n (pc' := 6) dX11_setSettle_5 rfl rfl ?_
    refine m_iload_n (pc' := 7) dX11_setSettle_6 rfl rfl ?_
    refine m_callV (pc' := 10) (A := [.int x]) (rest := []) (b := 214) cl_X11_setSettle_127 dX11_setSettle_7 rfl rfl (Nat.le_of_ble_eq_true rfl) ⟨by decide, by decide⟩ (by decide) rfl rfl rfl rfl ?_
    refine c_ment (s := a_s A) hs ?_
    show mM G mX11_setSettle 10 [some (.ref 214), some (.int x), some (.int q)] [.int (bin x 0 ((a_s A) 43 - 1))] S1 (u2 d.1 214 0 0, d.2) (0, 0) Q
    rw [show (bin x 0 ((a_s A) 43 - 1)) = 1 from bin_1 h1]
    refine m_if_eq (tgt := 39) (pc' := 13) dX11_setSettle_10 (by decide) rfl (fun h10 => absurd h10 (by decide)) (fun h10 => ?_)
    refine m_iload_n (pc' := 14) dX11_setSettle_13 rfl rfl ?_
    refine m_iconst (pc' := 15) (v := 0) dX11_setSettle_14 (by decide) rfl ?_
    refine m_bipush (pc' := 17) (v := 7) dX11_setSettle_15 (by decide) rfl ?_
    refine m_callS (pc' := 20) (A := [.int q, .int 0, .int 7]) (rest := []) cl_X11_setSettle_40 dX11_setSettle_17 rfl rfl (Nat.le_of_ble_eq_true rfl) ⟨by decide, by decide⟩ rfl rfl ?_
    refine c_in ?_
    show mM G mX11_setSettle 20 [some (.ref 214), some (.int x), some (.int q)] [.int (bin q 0 7)] S1 (u2 d.1 214 0 0, d.2) (0, 0) Q
    rw [show (bin q 0 7) = 0 from h2]
    refine m_if_eq (tgt := 39) (pc' := 23) dX11_setSettle_20 (by decide) rfl (fun h20 => ?_) (fun h20 => absurd h20 (by decide))
    refine m_ldc (pc' := 41) dX11_setSettle_39 kc_X11_setSettle_111 rfl ?_
    refine m_iret dX11_setSettle_41 rfl rfl ⟨by decide, by decide⟩ ?_
    exact hQ _ mfr.th hM.th
  have hM0 := hM.th
  obtain ⟨n, hl⟩ := hO.l
  have e43 := hl.2.1
  have hn16 := hl.1
  obtain ⟨x, hxn, rfl⟩ := bin_e (n := n) (by omega) (by rw [← e43]; exact h1)
  rw [show opSettle A (nI x) q = (a_s A (45 + 2 * x), rec A (sU (a_s A) (45 + 2 * x) q) (a_h A)) from by unfold opSettle; rw [if_neg (not_or.mpr ⟨h1, h2⟩), nn_nI (by omega)]] at hQ
  refine mC_of (by decide +kernel) ⟨_, rfl⟩ (Nat.le_of_ble_eq_true rfl) ?_
  show mM G mX11_setSettle 0 [some (.ref 214), some (.int (nI x)), some (.int q)] [] S1 d (0, 0) Q
  refine m_aload_n (pc' := 1) dX11_setSettle_0 rfl rfl ?_
  refine m_iconst (pc' := 2) (v := 0) dX11_setSettle_1 (by decide) rfl ?_
  refine m_putI (pc' := 5) (ty := .int) fa_X11_setSettle_29 dX11_setSettle_2 (by decide +kernel) rfl rfl (by decide) rfl rfl rfl ?_
  refine m_aload_n (pc' := 6) dX11_setSettle_5 rfl rfl ?_
  refine m_iload_n (pc' := 7) dX11_setSettle_6 rfl rfl ?_
  refine m_callV (pc' := 10) (A := [.int (nI x)]) (rest := []) (b := 214) cl_X11_setSettle_127 dX11_setSettle_7 rfl rfl (Nat.le_of_ble_eq_true rfl) ⟨by decide, by decide⟩ (by decide) rfl rfl rfl rfl ?_
  refine c_ment (s := a_s A) hs ?_
  show mM G mX11_setSettle 10 [some (.ref 214), some (.int (nI x)), some (.int q)] [.int (bin (nI x) 0 ((a_s A) 43 - 1))] S1 (u2 d.1 214 0 0, d.2) (0, 0) Q
  rw [show (bin (nI x) 0 ((a_s A) 43 - 1)) = 1 from bin_1 h1]
  refine m_if_eq (tgt := 39) (pc' := 13) dX11_setSettle_10 (by decide) rfl (fun h10 => absurd h10 (by decide)) (fun h10 => ?_)
  refine m_iload_n (pc' := 14) dX11_setSettle_13 rfl rfl ?_
  refine m_iconst (pc' := 15) (v := 0) dX11_setSettle_14 (by decide) rfl ?_
  refine m_bipush (pc' := 17) (v := 7) dX11_setSettle_15 (by decide) rfl ?_
  refine m_callS (pc' := 20) (A := [.int q, .int 0, .int 7]) (rest := []) cl_X11_setSettle_40 dX11_setSettle_17 rfl rfl (Nat.le_of_ble_eq_true rfl) ⟨by decide, by decide⟩ rfl rfl ?_
  refine c_in ?_
  show mM G mX11_setSettle 20 [some (.ref 214), some (.int (nI x)), some (.int q)] [.int (bin q 0 7)] S1 (u2 d.1 214 0 0, d.2) (0, 0) Q
  rw [show (bin q 0 7) = 1 from bin_1 h2]
  refine m_if_eq (tgt := 39) (pc' := 23) dX11_setSettle_20 (by decide) rfl (fun h20 => absurd h20 (by decide)) (fun h20 => ?_)
  refine m_aload_n (pc' := 24) dX11_setSettle_23 rfl rfl ?_
  refine m_bipush (pc' := 26) (v := 44) dX11_setSettle_24 (by decide) rfl ?_
  refine m_iconst (pc' := 27) (v := 2) dX11_setSettle_26 (by decide) rfl ?_
  refine m_iload_n (pc' := 28) dX11_setSettle_27 rfl rfl ?_
  refine m_imul (pc' := 29) dX11_setSettle_28 rfl ?_
  refine m_iadd (pc' := 30) dX11_setSettle_29 rfl ?_
  refine m_iconst (pc' := 31) (v := 1) dX11_setSettle_30 (by decide) rfl ?_
  refine m_iadd (pc' := 32) dX11_setSettle_31 rfl ?_
  refine m_iload_n (pc' := 33) dX11_setSettle_32 rfl rfl ?_
  refine m_callV (pc' := 36) (A := [.int ((44 + (2 * (nI x))) + 1), .int q]) (rest := []) (b := 214) cl_X11_setSettle_119 dX11_setSettle_33 rfl rfl (Nat.le_of_ble_eq_true rfl) ⟨by decide, by decide⟩ (by decide) rfl rfl rfl rfl ?_
  refine c_mput (A := A) (j := 45 + 2 * x) hM0 (ix_f x) (by omega) (fun e e0 eM => ?_)
  show mM G mX11_setSettle 36 [some (.ref 214), some (.int (nI x)), some (.int q)] [.int (a_s A (45 + 2 * x))] S1 e (0, 0) Q
  refine m_goto (tgt := 41) dX11_setSettle_36 (by decide) ?_
  refine m_iret dX11_setSettle_41 rfl rfl ⟨by decide, by decide⟩ ?_
  exact hQ e (mfr.th.trans e0) eM
set_option maxHeartbeats 4000000 in
set_option maxRecDepth 100000 in
theorem p_pass {A : AS} {n : Int32} (hM : MM d A)  (hQ : ∀ d', mfr d d' → MM d' (opPass A n).2 → Q (some (.int (opPass A n).1)) S1 d') : mC G mX11_pass [.ref 214, .int n] S1 d Q := by
  by_cases h1 : bin n 1 1000 = 0
  · skip
    rw [show opPass A n = (eI, A) from if_pos h1] at hQ
    refine mC_of (by decide +kernel) ⟨_, rfl⟩ (Nat.le_of_ble_eq_true rfl) ?_
    show mM G mX11_pass 0 [some (.ref 214), some (.int n)] [] S1 d (0, 0) Q
    refine m_aload_n (pc' := 1) dX11_pass_0 rfl rfl ?_
    refine m_iconst (pc' := 2) (v := 0) dX11_pass_1 (by decide) rfl ?_
    refine m_putI (pc' := 5) (ty := .int) fa_X11_pass_29 dX11_pass_2 (by decide +kernel) rfl rfl (by decide) rfl rfl rfl ?_
    refine m_iload_n (pc' := 6) dX11_pass_5 rfl rfl ?_
    refine m_iconst (pc' := 7) (v := 1) dX11_pass_6 (by decide) rfl ?_
    refine m_sipush (pc' := 10) (v := 1000) dX11_pass_7 (by decide) rfl ?_
    refine m_callS (pc' := 13) (A := [.int n, .int 1, .int 1000]) (rest := []) cl_X11_pass_40 dX11_pass_10 rfl rfl (Nat.le_of_ble_eq_true rfl) ⟨by decide, by decide⟩ rfl rfl ?_
    refine c_in ?_
    show mM G mX11_pass 13 [some (.ref 214), some (.int n)] [.int (bin n 1 1000)] S1 (u2 d.1 214 0 0, d.2) (0, 0) Q
    rw [show (bin n 1 1000) = 0 from h1]
    refine m_if_ne (tgt := 19) (pc' := 16) dX11_pass_13 (by decide) rfl (fun h13 => absurd h13 (by decide)) (fun h13 => ?_)
    refine m_ldc (pc' := 18) dX11_pass_16 kc_X11_pass_111 rfl ?_
    refine m_iret dX11_pass_18 rfl rfl ⟨by decide, by decide⟩ ?_
    exact hQ _ mfr.th hM.th
  have hs : d.1 215 = a_s A := hM.1
  by_cases h2 : 9999 < a_s A 76 + n
  · skip
    rw [show opPass A n = (eC, A) from by unfold opPass; rw [if_neg h1, if_pos h2]] at hQ
    refine mC_of (by decide +kernel) ⟨_, rfl⟩ (Nat.le_of_ble_eq_true rfl) ?_
    show mM G mX11_pass 0 [some (.ref 214), some (.int n)] [] S1 d (0, 0) Q
    refine m_aload_n (pc' := 1) dX11_pass_0 rfl rfl ?_
    refine m_iconst (pc' := 2) (v := 0) dX11_pass_1 (by decide) rfl ?_
    refine m_putI (pc' := 5) (ty := .int) fa_X11_pass_29 dX11_pass_2 (by decide +kernel) rfl rfl (by decide) rfl rfl rfl ?_
    refine m_iload_n (pc' := 6) dX11_pass_5 rfl rfl ?_
    refine m_iconst (pc' := 7) (v := 1) dX11_pass_6 (by decide) rfl ?_
    refine m_sipush (pc' := 10) (v := 1000) dX11_pass_7 (by decide) rfl ?_
    refine m_callS (pc' := 13) (A := [.int n, .int 1, .int 1000]) (rest := []) cl_X11_pass_40 dX11_pass_10 rfl rfl (Nat.le_of_ble_eq_true rfl) ⟨by decide, by decide⟩ rfl rfl ?_
    refine c_in ?_
    show mM G mX11_pass 13 [some (.ref 214), some (.int n)] [.int (bin n 1 1000)] S1 (u2 d.1 214 0 0, d.2) (0, 0) Q
    rw [show (bin n 1 1000) = 1 from bin_1 h1]
    refine m_if_ne (tgt := 19) (pc' := 16) dX11_pass_13 (by decide) rfl (fun h13 => ?_) (fun h13 => absurd h13 (by decide))
    refine m_aload_n (pc' := 20) dX11_pass_19 rfl rfl ?_
    refine m_getR (pc' := 23) fa_X11_pass_7 dX11_pass_20 (by decide) rfl rfl rfl rfl ?_
    refine m_bipush (pc' := 25) (v := 76) dX11_pass_23 (by decide) rfl ?_
    refine m_ialdN (pc' := 26) (j := 76) (L := 408) dX11_pass_25 (by decide) rfl rfl (rfl) (by decide) (by decide) rfl ?_
    show mM G mX11_pass 26 [some (.ref 214), some (.int n)] [.int (d.1 215 76)] S1 (u2 d.1 214 0 0, d.2) (0, 0) Q
    rw [show (d.1 215 76) = ((a_s A) 76) from congrFun hs 76]
    refine m_iload_n (pc' := 27) dX11_pass_26 rfl rfl ?_
    refine m_iadd (pc' := 28) dX11_pass_27 rfl ?_
    refine m_sipush (pc' := 31) (v := 9999) dX11_pass_28 (by decide) rfl ?_
    refine m_icmp_le (tgt := 37) (pc' := 34) dX11_pass_31 (by decide) rfl (fun h31 => absurd h31 (Int32.not_le.mpr h2)) (fun h31 => ?_)
    refine m_ldc (pc' := 36) dX11_pass_34 kc_X11_pass_122 rfl ?_
    refine m_iret dX11_pass_36 rfl rfl ⟨by decide, by decide⟩ ?_
    exact hQ _ mfr.th hM.th
  have hM0 := hM.th
  rw [show opPass A n = (a_s A 76 + n, rec A (sU (sU (a_s A) 76 (a_s A 76 + n)) 91 (a_s A 91 + n)) (a_h A)) from by unfold opPass; rw [if_neg h1, if_neg h2]] at hQ
  refine mC_of (by decide +kernel) ⟨_, rfl⟩ (Nat.le_of_ble_eq_true rfl) ?_
  show mM G mX11_pass 0 [some (.ref 214), some (.int n)] [] S1 d (0, 0) Q
  refine m_aload_n (pc' := 1) dX11_pass_0 rfl rfl ?_
  refine m_iconst (pc' := 2) (v := 0) dX11_pass_1 (by decide) rfl ?_
  refine m_putI (pc' := 5) (ty := .int) fa_X11_pass_29 dX11_pass_2 (by decide +kernel) rfl rfl (by decide) rfl rfl rfl ?_
  refine m_iload_n (pc' := 6) dX11_pass_5 rfl rfl ?_
  refine m_iconst (pc' := 7) (v := 1) dX11_pass_6 (by decide) rfl ?_
  refine m_sipush (pc' := 10) (v := 1000) dX11_pass_7 (by decide) rfl ?_
  refine m_callS (pc' := 13) (A := [.int n, .int 1, .int 1000]) (rest := []) cl_X11_pass_40 dX11_pass_10 rfl rfl (Nat.le_of_ble_eq_true rfl) ⟨by decide, by decide⟩ rfl rfl ?_
  refine c_in ?_
  show mM G mX11_pass 13 [some (.ref 214), some (.int n)] [.int (bin n 1 1000)] S1 (u2 d.1 214 0 0, d.2) (0, 0) Q
  rw [show (bin n 1 1000) = 1 from bin_1 h1]
  refine m_if_ne (tgt := 19) (pc' := 16) dX11_pass_13 (by decide) rfl (fun h13 => ?_) (fun h13 => absurd h13 (by decide))
  refine m_aload_n (pc' := 20) dX11_pass_19 rfl rfl ?_
  refine m_getR (pc' := 23) fa_X11_pass_7 dX11_pass_20 (by decide) rfl rfl rfl rfl ?_
  refine m_bipush (pc' := 25) (v := 76) dX11_pass_23 (by decide) rfl ?_
  refine m_ialdN (pc' := 26) (j := 76) (L := 408) dX11_pass_25 (by decide) rfl rfl (rfl) (by decide) (by decide) rfl ?_
  show mM G mX11_pass 26 [some (.ref 214), some (.int n)] [.int (d.1 215 76)] S1 (u2 d.1 214 0 0, d.2) (0, 0) Q
  rw [show (d.1 215 76) = ((a_s A) 76) from congrFun hs 76]
  refine m_iload_n (pc' := 27) dX11_pass_26 rfl rfl ?_
  refine m_iadd (pc' := 28) dX11_pass_27 rfl ?_
  refine m_sipush (pc' := 31) (v := 9999) dX11_pass_28 (by decide) rfl ?_
  refine m_icmp_le (tgt := 37) (pc' := 34) dX11_pass_31 (by decide) rfl (fun h31 => ?_) (fun h31 => (h31 (Int32.not_lt.mp h2)).elim)
  refine m_aload_n (pc' := 38) dX11_pass_37 rfl rfl ?_
  refine m_callV (pc' := 41) (A := []) (rest := []) (b := 214) cl_X11_pass_112 dX11_pass_38 rfl rfl (Nat.le_of_ble_eq_true rfl) ⟨by decide, by decide⟩ (by decide) rfl rfl rfl rfl ?_
  refine c_mact (s := a_s A) (h := a_h A) hM0.1 hM0.2.1 hM0.2.2.1 hM0.2.2.2.1 hM0.2.2.2.2.1 hM0.2.2.2.2.2.1 (fun g g0 g1 g2 g3 => ?_)
  show mM G mX11_pass 41 [some (.ref 214), some (.int n)] [] S1 g (0, 0) Q
  have gM := hM0.act g0 g1 g2 g3
  have hs : g.1 215 = a_s A := gM.1
  refine m_aload_n (pc' := 42) dX11_pass_41 rfl rfl ?_
  refine m_getR (pc' := 45) fa_X11_pass_7 dX11_pass_42 (by decide) rfl rfl rfl rfl ?_
  refine m_bipush (pc' := 47) (v := 76) dX11_pass_45 (by decide) rfl ?_
  refine m_dup2 (pc' := 48) dX11_pass_47 rfl ?_
  refine m_ialdN (pc' := 49) (j := 76) (L := 408) dX11_pass_48 (by decide) rfl rfl (rfl) (by decide) (by decide) rfl ?_
  rw [show (g.1 215 76) = ((a_s A) 76) from congrFun hs 76]
  refine m_iload_n (pc' := 50) dX11_pass_49 rfl rfl ?_
  refine m_iadd (pc' := 51) dX11_pass_50 rfl ?_
  refine m_iastN (pc' := 52) (j := 76) (L := 408) dX11_pass_51 (by decide) rfl rfl (rfl) (by decide) (by decide) rfl ?_
  refine m_aload_n (pc' := 53) dX11_pass_52 rfl rfl ?_
  refine m_getR (pc' := 56) fa_X11_pass_7 dX11_pass_53 (by decide) rfl rfl rfl rfl ?_
  refine m_bipush (pc' := 58) (v := 91) dX11_pass_56 (by decide) rfl ?_
  refine m_dup2 (pc' := 59) dX11_pass_58 rfl ?_
  refine m_ialdN (pc' := 60) (j := 91) (L := 408) dX11_pass_59 (by decide) rfl rfl (rfl) (by decide) (by decide) rfl ?_
  show mM G mX11_pass 60 [some (.ref 214), some (.int n)] [.int (g.1 215 91), .int 91, .ref 215] S1 (u2 g.1 215 76 (((a_s A) 76) + n), g.2) (0, 0) Q
  rw [show (g.1 215 91) = ((a_s A) 91) from congrFun hs 91]
  refine m_iload_n (pc' := 61) dX11_pass_60 rfl rfl ?_
  refine m_iadd (pc' := 62) dX11_pass_61 rfl ?_
  refine m_iastN (pc' := 63) (j := 91) (L := 408) dX11_pass_62 (by decide) rfl rfl (rfl) (by decide) (by decide) rfl ?_
  refine m_aload_n (pc' := 64) dX11_pass_63 rfl rfl ?_
  refine m_getR (pc' := 67) fa_X11_pass_7 dX11_pass_64 (by decide) rfl rfl rfl rfl ?_
  refine m_bipush (pc' := 69) (v := 76) dX11_pass_67 (by decide) rfl ?_
  refine m_ialdN (pc' := 70) (j := 76) (L := 408) dX11_pass_69 (by decide) rfl rfl (rfl) (by decide) (by decide) rfl ?_
  show mM G mX11_pass 70 [some (.ref 214), some (.int n)] [.int (((a_s A) 76) + n)] S1 (u2 (u2 g.1 215 76 (((a_s A) 76) + n)) 215 91 (((a_s A) 91) + n), g.2) (0, 0) Q
  refine m_iret dX11_pass_70 rfl rfl ⟨by decide, by decide⟩ ?_
  exact hQ _ (mfr_put (mfr_put (mfr.th.trans (act_mf g0)))) ((gM.put rfl).put rfl)
set_option maxHeartbeats 4000000 in
set_option maxRecDepth 100000 in
theorem p_take {A : AS} {p : Int32} (hM : MM d A)  (hQ : ∀ d', mfr d d' → MM d' (opTake A p).2 → Q (some (.int (opTake A p).1)) S1 d') : mC G mX11_take [.ref 214, .int p] S1 d Q := by
  by_cases h1 : bin p 0 1 = 0
  · skip
    rw [show opTake A p = (eI, A) from if_pos h1] at hQ
    refine mC_of (by decide +kernel) ⟨_, rfl⟩ (Nat.le_of_ble_eq_true rfl) ?_
    show mM G mX11_take 0 [some (.ref 214), some (.int p), none, none] [] S1 d (0, 0) Q
    refine m_aload_n (pc' := 1) dX11_take_0 rfl rfl ?_
    refine m_iconst (pc' := 2) (v := 0) dX11_take_1 (by decide) rfl ?_
    refine m_putI (pc' := 5) (ty := .int) fa_X11_take_29 dX11_take_2 (by decide +kernel) rfl rfl (by decide) rfl rfl rfl ?_
    refine m_iload_n (pc' := 6) dX11_take_5 rfl rfl ?_
    refine m_iconst (pc' := 7) (v := 0) dX11_take_6 (by decide) rfl ?_
    refine m_iconst (pc' := 8) (v := 1) dX11_take_7 (by decide) rfl ?_
    refine m_callS (pc' := 11) (A := [.int p, .int 0, .int 1]) (rest := []) cl_X11_take_40 dX11_take_8 rfl rfl (Nat.le_of_ble_eq_true rfl) ⟨by decide, by decide⟩ rfl rfl ?_
    refine c_in ?_
    show mM G mX11_take 11 [some (.ref 214), some (.int p), none, none] [.int (bin p 0 1)] S1 (u2 d.1 214 0 0, d.2) (0, 0) Q
    rw [show (bin p 0 1) = 0 from h1]
    refine m_if_ne (tgt := 17) (pc' := 14) dX11_take_11 (by decide) rfl (fun h11 => absurd h11 (by decide)) (fun h11 => ?_)
    refine m_ldc (pc' := 16) dX11_take_14 kc_X11_take_111 rfl ?_
    refine m_iret dX11_take_16 rfl rfl ⟨by decide, by decide⟩ ?_
    exact hQ _ mfr.th hM.th
  have hM0 := hM.th
  have hs : d.1 215 = a_s A := hM.1
  obtain ⟨p, hp, rfl⟩ := bin_t (b := 1) (by decide) h1
  rw [show opTake A (nI p) = (a_s A 43, rec A (tks (a_s A) p) (a_h A)) from by unfold opTake; rw [if_neg h1, nn_nI (by omega)]] at hQ
  have J : ∀ (n0 : Nat) (k : Nat) (d1 : Dt) (_ : k + n0 = 76) (_ : mfr d d1) (_ : MM d1 (rec A (cpw (a_s A) (sU (a_s A) (254 + 77 * p) 1) (255 + 77 * p) k) (a_h A))), mM G mX11_take 39 [some (.ref 214), some (.int (nI p)), some (.int (nI (254 + 77 * p))), some (.int (nI k))] [] S1 d1 (0, 0) Q := by
    intro n0
    induction n0 with
    | zero =>
      intro k d1 hk hd hM1
      refine m_iload_n (pc' := 40) dX11_take_39 rfl rfl ?_
      refine m_bipush (pc' := 42) (v := 76) dX11_take_40 (by decide) rfl ?_
      refine m_icmp_ge (tgt := 67) (pc' := 45) dX11_take_42 (by decide) rfl (fun h42 => ?_) (fun h42 => (h42 (nI_le (a := 76) (by omega) (by omega))).elim)
      refine m_aload_n (pc' := 68) dX11_take_67 rfl rfl ?_
      refine m_getR (pc' := 71) fa_X11_take_7 dX11_take_68 (by decide) rfl rfl rfl rfl ?_
      refine m_bipush (pc' := 73) (v := 43) dX11_take_71 (by decide) rfl ?_
      refine m_ialdN (pc' := 74) (j := 43) (L := 408) dX11_take_73 (by decide) rfl rfl (rfl) (by decide) (by decide) rfl ?_
      rw [show (d1.1 215 43) = (a_s A 43) from (congrFun hM1.1 43).trans (tk_lo (by decide))]
      refine m_iret dX11_take_74 rfl rfl ⟨by decide, by decide⟩ ?_
      obtain rfl : k = 76 := by omega
      exact hQ d1 hd hM1
    | succ n0 ih =>
      intro k d1 hk hd hM1
      refine m_iload_n (pc' := 40) dX11_take_39 rfl rfl ?_
      refine m_bipush (pc' := 42) (v := 76) dX11_take_40 (by decide) rfl ?_
      refine m_icmp_ge (tgt := 67) (pc' := 45) dX11_take_42 (by decide) rfl (fun h42 => absurd h42 (nI_ge (b := 76) (by omega) (by omega))) (fun h42 => ?_)
      refine m_aload_n (pc' := 46) dX11_take_45 rfl rfl ?_
      refine m_getR (pc' := 49) fa_X11_take_7 dX11_take_46 (by decide) rfl rfl rfl rfl ?_
      refine m_iload_n (pc' := 50) dX11_take_49 rfl rfl ?_
      refine m_iconst (pc' := 51) (v := 1) dX11_take_50 (by decide) rfl ?_
      refine m_iadd (pc' := 52) dX11_take_51 rfl ?_
      refine m_iload_n (pc' := 53) dX11_take_52 rfl rfl ?_
      refine m_iadd (pc' := 54) dX11_take_53 rfl ?_
      refine m_aload_n (pc' := 55) dX11_take_54 rfl rfl ?_
      refine m_getR (pc' := 58) fa_X11_take_7 dX11_take_55 (by decide) rfl rfl rfl rfl ?_
      refine m_iload_n (pc' := 59) dX11_take_58 rfl rfl ?_
      refine m_ialdN (pc' := 60) (j := k) (L := 408) dX11_take_59 (by decide) rfl rfl (rfl) (by omega) (by decide) rfl ?_
      rw [show (d1.1 215 k) = (a_s A k) from (congrFun hM1.1 k).trans (tk_lo (by omega))]
      refine m_iastN (pc' := 61) (j := 255 + 77 * p + k) (L := 408) dX11_take_60 (by decide) rfl rfl (ix_t2 p k) (by omega) (by decide) rfl ?_
      refine m_iinc (pc' := 64) dX11_take_61 rfl (by decide) (v := nI (k + 1)) (nI_1 k) rfl rfl ?_
      refine m_goto (tgt := 39) dX11_take_64 (by decide) ?_
      exact ih (k + 1) _ (by omega) (mfr_put hd) (hM1.put (cpw_s (a_s A) _ (255 + 77 * p) k))
  refine mC_of (by decide +kernel) ⟨_, rfl⟩ (Nat.le_of_ble_eq_true rfl) ?_
  show mM G mX11_take 0 [some (.ref 214), some (.int (nI p)), none, none] [] S1 d (0, 0) Q
  refine m_aload_n (pc' := 1) dX11_take_0 rfl rfl ?_
  refine m_iconst (pc' := 2) (v := 0) dX11_take_1 (by decide) rfl ?_
  refine m_putI (pc' := 5) (ty := .int) fa_X11_take_29 dX11_take_2 (by decide +kernel) rfl rfl (by decide) rfl rfl rfl ?_
  refine m_iload_n (pc' := 6) dX11_take_5 rfl rfl ?_
  refine m_iconst (pc' := 7) (v := 0) dX11_take_6 (by decide) rfl ?_
  refine m_iconst (pc' := 8) (v := 1) dX11_take_7 (by decide) rfl ?_
  refine m_callS (pc' := 11) (A := [.int (nI p), .int 0, .int 1]) (rest := []) cl_X11_take_40 dX11_take_8 rfl rfl (Nat.le_of_ble_eq_true rfl) ⟨by decide, by decide⟩ rfl rfl ?_
  refine c_in ?_
  show mM G mX11_take 11 [some (.ref 214), some (.int (nI p)), none, none] [.int (bin (nI p) 0 1)] S1 (u2 d.1 214 0 0, d.2) (0, 0) Q
  rw [show (bin (nI p) 0 1) = 1 from bin_1 h1]
  refine m_if_ne (tgt := 17) (pc' := 14) dX11_take_11 (by decide) rfl (fun h11 => ?_) (fun h11 => absurd h11 (by decide))
  refine m_aload_n (pc' := 18) dX11_take_17 rfl rfl ?_
  refine m_callV (pc' := 21) (A := []) (rest := []) (b := 214) cl_X11_take_112 dX11_take_18 rfl rfl (Nat.le_of_ble_eq_true rfl) ⟨by decide, by decide⟩ (by decide) rfl rfl rfl rfl ?_
  refine c_mact (s := a_s A) (h := a_h A) hM0.1 hM0.2.1 hM0.2.2.1 hM0.2.2.2.1 hM0.2.2.2.2.1 hM0.2.2.2.2.2.1 (fun g g0 g1 g2 g3 => ?_)
  show mM G mX11_take 21 [some (.ref 214), some (.int (nI p)), none, none] [] S1 g (0, 0) Q
  have gM := hM0.act g0 g1 g2 g3
  have hs : g.1 215 = a_s A := gM.1
  refine m_sipush (pc' := 24) (v := 254) dX11_take_21 (by decide) rfl ?_
  refine m_bipush (pc' := 26) (v := 77) dX11_take_24 (by decide) rfl ?_
  refine m_iload_n (pc' := 27) dX11_take_26 rfl rfl ?_
  refine m_imul (pc' := 28) dX11_take_27 rfl ?_
  refine m_iadd (pc' := 29) dX11_take_28 rfl ?_
  rw [show (254 + (77 * (nI p))) = (nI (254 + 77 * p)) from ix_t p]
  refine m_istore_n (pc' := 30) dX11_take_29 (by decide) rfl rfl ?_
  refine m_aload_n (pc' := 31) dX11_take_30 rfl rfl ?_
  refine m_getR (pc' := 34) fa_X11_take_7 dX11_take_31 (by decide) rfl rfl rfl rfl ?_
  refine m_iload_n (pc' := 35) dX11_take_34 rfl rfl ?_
  refine m_iconst (pc' := 36) (v := 1) dX11_take_35 (by decide) rfl ?_
  refine m_iastN (pc' := 37) (j := 254 + 77 * p) (L := 408) dX11_take_36 (by decide) rfl rfl (rfl) (by omega) (by decide) rfl ?_
  refine m_iconst (pc' := 38) (v := 0) dX11_take_37 (by decide) rfl ?_
  refine m_istore_n (pc' := 39) dX11_take_38 (by decide) rfl rfl ?_
  exact J 76 0 _ (by omega) (mfr_put (mfr.th.trans (act_mf g0))) (gM.put (cpw_0 (a_s A) _ (255 + 77 * p)).symm)
set_option maxHeartbeats 4000000 in
set_option maxRecDepth 100000 in
theorem p_restore {A : AS} {p : Int32} (hM : MM d A)  (hQ : ∀ d', mfr d d' → MM d' (opRestore A p).2 → Q (some (.int (opRestore A p).1)) S1 d') : mC G mX11_restore [.ref 214, .int p] S1 d Q := by
  by_cases h1 : bin p 0 1 = 0
  · skip
    rw [show opRestore A p = (eI, A) from if_pos h1] at hQ
    refine mC_of (by decide +kernel) ⟨_, rfl⟩ (Nat.le_of_ble_eq_true rfl) ?_
    show mM G mX11_restore 0 [some (.ref 214), some (.int p), none, none] [] S1 d (0, 0) Q
    refine m_aload_n (pc' := 1) dX11_restore_0 rfl rfl ?_
    refine m_iconst (pc' := 2) (v := 0) dX11_restore_1 (by decide) rfl ?_
    refine m_putI (pc' := 5) (ty := .int) fa_X11_restore_29 dX11_restore_2 (by decide +kernel) rfl rfl (by decide) rfl rfl rfl ?_
    refine m_iload_n (pc' := 6) dX11_restore_5 rfl rfl ?_
    refine m_iconst (pc' := 7) (v := 0) dX11_restore_6 (by decide) rfl ?_
    refine m_iconst (pc' := 8) (v := 1) dX11_restore_7 (by decide) rfl ?_
    refine m_callS (pc' := 11) (A := [.int p, .int 0, .int 1]) (rest := []) cl_X11_restore_40 dX11_restore_8 rfl rfl (Nat.le_of_ble_eq_true rfl) ⟨by decide, by decide⟩ rfl rfl ?_
    refine c_in ?_
    show mM G mX11_restore 11 [some (.ref 214), some (.int p), none, none] [.int (bin p 0 1)] S1 (u2 d.1 214 0 0, d.2) (0, 0) Q
    rw [show (bin p 0 1) = 0 from h1]
    refine m_if_ne (tgt := 17) (pc' := 14) dX11_restore_11 (by decide) rfl (fun h11 => absurd h11 (by decide)) (fun h11 => ?_)
    refine m_ldc (pc' := 16) dX11_restore_14 kc_X11_restore_111 rfl ?_
    refine m_iret dX11_restore_16 rfl rfl ⟨by decide, by decide⟩ ?_
    exact hQ _ mfr.th hM.th
  have hM0 := hM.th
  have hs : d.1 215 = a_s A := hM.1
  obtain ⟨p, hp, rfl⟩ := bin_t (b := 1) (by decide) h1
  by_cases h2 : a_s A (254 + 77 * p) = 0
  · skip
    rw [show opRestore A (nI p) = (eS, A) from by unfold opRestore; rw [if_neg h1, nn_nI (by omega), if_pos h2]] at hQ
    refine mC_of (by decide +kernel) ⟨_, rfl⟩ (Nat.le_of_ble_eq_true rfl) ?_
    show mM G mX11_restore 0 [some (.ref 214), some (.int (nI p)), none, none] [] S1 d (0, 0) Q
    refine m_aload_n (pc' := 1) dX11_restore_0 rfl rfl ?_
    refine m_iconst (pc' := 2) (v := 0) dX11_restore_1 (by decide) rfl ?_
    refine m_putI (pc' := 5) (ty := .int) fa_X11_restore_29 dX11_restore_2 (by decide +kernel) rfl rfl (by decide) rfl rfl rfl ?_
    refine m_iload_n (pc' := 6) dX11_restore_5 rfl rfl ?_
    refine m_iconst (pc' := 7) (v := 0) dX11_restore_6 (by decide) rfl ?_
    refine m_iconst (pc' := 8) (v := 1) dX11_restore_7 (by decide) rfl ?_
    refine m_callS (pc' := 11) (A := [.int (nI p), .int 0, .int 1]) (rest := []) cl_X11_restore_40 dX11_restore_8 rfl rfl (Nat.le_of_ble_eq_true rfl) ⟨by decide, by decide⟩ rfl rfl ?_
    refine c_in ?_
    show mM G mX11_restore 11 [some (.ref 214), some (.int (nI p)), none, none] [.int (bin (nI p) 0 1)] S1 (u2 d.1 214 0 0, d.2) (0, 0) Q
    rw [show (bin (nI p) 0 1) = 1 from bin_1 h1]
    refine m_if_ne (tgt := 17) (pc' := 14) dX11_restore_11 (by decide) rfl (fun h11 => ?_) (fun h11 => absurd h11 (by decide))
    refine m_sipush (pc' := 20) (v := 254) dX11_restore_17 (by decide) rfl ?_
    refine m_bipush (pc' := 22) (v := 77) dX11_restore_20 (by decide) rfl ?_
    refine m_iload_n (pc' := 23) dX11_restore_22 rfl rfl ?_
    refine m_imul (pc' := 24) dX11_restore_23 rfl ?_
    refine m_iadd (pc' := 25) dX11_restore_24 rfl ?_
    rw [show (254 + (77 * (nI p))) = (nI (254 + 77 * p)) from ix_t p]
    refine m_istore_n (pc' := 26) dX11_restore_25 (by decide) rfl rfl ?_
    refine m_aload_n (pc' := 27) dX11_restore_26 rfl rfl ?_
    refine m_getR (pc' := 30) fa_X11_restore_7 dX11_restore_27 (by decide) rfl rfl rfl rfl ?_
    refine m_iload_n (pc' := 31) dX11_restore_30 rfl rfl ?_
    refine m_ialdN (pc' := 32) (j := 254 + 77 * p) (L := 408) dX11_restore_31 (by decide) rfl rfl (rfl) (by omega) (by decide) rfl ?_
    show mM G mX11_restore 32 [some (.ref 214), some (.int (nI p)), some (.int (nI (254 + 77 * p))), none] [.int (d.1 215 (254 + 77 * p))] S1 (u2 d.1 214 0 0, d.2) (0, 0) Q
    rw [show (d.1 215 (254 + 77 * p)) = ((a_s A) (254 + 77 * p)) from congrFun hs (254 + 77 * p)]
    refine m_if_ne (tgt := 38) (pc' := 35) dX11_restore_32 (by decide) rfl (fun h32 => (h32 h2).elim) (fun h32 => ?_)
    refine m_ldc (pc' := 37) dX11_restore_35 kc_X11_restore_139 rfl ?_
    refine m_iret dX11_restore_37 rfl rfl ⟨by decide, by decide⟩ ?_
    exact hQ _ mfr.th hM.th
  rw [show opRestore A (nI p) = (a_s A (298 + 77 * p), rec A (rst (a_s A) p) (a_h A)) from by unfold opRestore; rw [if_neg h1, nn_nI (by omega), if_neg h2]] at hQ
  have J : ∀ (n0 : Nat) (k : Nat) (d1 : Dt) (_ : k + n0 = 76) (_ : mfr d d1) (_ : MM d1 (rec A (cpi (fun j => a_s A (255 + 77 * p + j)) (a_s A) k) (a_h A))), mM G mX11_restore 44 [some (.ref 214), some (.int (nI p)), some (.int (nI (254 + 77 * p))), some (.int (nI k))] [] S1 d1 (0, 0) Q := by
    intro n0
    induction n0 with
    | zero =>
      intro k d1 hk hd hM1
      refine m_iload_n (pc' := 45) dX11_restore_44 rfl rfl ?_
      refine m_bipush (pc' := 47) (v := 76) dX11_restore_45 (by decide) rfl ?_
      refine m_icmp_ge (tgt := 72) (pc' := 50) dX11_restore_47 (by decide) rfl (fun h47 => ?_) (fun h47 => (h47 (nI_le (a := 76) (by omega) (by omega))).elim)
      refine m_aload_n (pc' := 73) dX11_restore_72 rfl rfl ?_
      refine m_getR (pc' := 76) fa_X11_restore_7 dX11_restore_73 (by decide) rfl rfl rfl rfl ?_
      refine m_bipush (pc' := 78) (v := 43) dX11_restore_76 (by decide) rfl ?_
      refine m_ialdN (pc' := 79) (j := 43) (L := 408) dX11_restore_78 (by decide) rfl rfl (rfl) (by decide) (by decide) rfl ?_
      rw [show (d1.1 215 43) = (a_s A (298 + 77 * p)) from (congrFun hM1.1 43).trans ((show cpi (fun j => a_s A (255 + 77 * p + j)) (a_s A) k 43 = a_s A (255 + 77 * p + 43) from cpi_lt (by omega)).trans (by congr 1; omega))]
      refine m_iret dX11_restore_79 rfl rfl ⟨by decide, by decide⟩ ?_
      obtain rfl : k = 76 := by omega
      exact hQ d1 hd hM1
    | succ n0 ih =>
      intro k d1 hk hd hM1
      refine m_iload_n (pc' := 45) dX11_restore_44 rfl rfl ?_
      refine m_bipush (pc' := 47) (v := 76) dX11_restore_45 (by decide) rfl ?_
      refine m_icmp_ge (tgt := 72) (pc' := 50) dX11_restore_47 (by decide) rfl (fun h47 => absurd h47 (nI_ge (b := 76) (by omega) (by omega))) (fun h47 => ?_)
      refine m_aload_n (pc' := 51) dX11_restore_50 rfl rfl ?_
      refine m_getR (pc' := 54) fa_X11_restore_7 dX11_restore_51 (by decide) rfl rfl rfl rfl ?_
      refine m_iload_n (pc' := 55) dX11_restore_54 rfl rfl ?_
      refine m_aload_n (pc' := 56) dX11_restore_55 rfl rfl ?_
      refine m_getR (pc' := 59) fa_X11_restore_7 dX11_restore_56 (by decide) rfl rfl rfl rfl ?_
      refine m_iload_n (pc' := 60) dX11_restore_59 rfl rfl ?_
      refine m_iconst (pc' := 61) (v := 1) dX11_restore_60 (by decide) rfl ?_
      refine m_iadd (pc' := 62) dX11_restore_61 rfl ?_
      refine m_iload_n (pc' := 63) dX11_restore_62 rfl rfl ?_
      refine m_iadd (pc' := 64) dX11_restore_63 rfl ?_
      refine m_ialdN (pc' := 65) (j := 255 + 77 * p + k) (L := 408) dX11_restore_64 (by decide) rfl rfl (ix_t2 p k) (by omega) (by decide) rfl ?_
      rw [show (d1.1 215 (255 + 77 * p + k)) = (a_s A (255 + 77 * p + k)) from (congrFun hM1.1 _).trans (show cpi (fun j => a_s A (255 + 77 * p + j)) (a_s A) k (255 + 77 * p + k) = a_s A (255 + 77 * p + k) from cpi_ge (by omega))]
      refine m_iastN (pc' := 66) (j := k) (L := 408) dX11_restore_65 (by decide) rfl rfl (rfl) (by omega) (by decide) rfl ?_
      refine m_iinc (pc' := 69) dX11_restore_66 rfl (by decide) (v := nI (k + 1)) (nI_1 k) rfl rfl ?_
      refine m_goto (tgt := 44) dX11_restore_69 (by decide) ?_
      exact ih (k + 1) _ (by omega) (mfr_put hd) (hM1.put (cpi_s (fun j => a_s A (255 + 77 * p + j)) (a_s A) k))
  refine mC_of (by decide +kernel) ⟨_, rfl⟩ (Nat.le_of_ble_eq_true rfl) ?_
  show mM G mX11_restore 0 [some (.ref 214), some (.int (nI p)), none, none] [] S1 d (0, 0) Q
  refine m_aload_n (pc' := 1) dX11_restore_0 rfl rfl ?_
  refine m_iconst (pc' := 2) (v := 0) dX11_restore_1 (by decide) rfl ?_
  refine m_putI (pc' := 5) (ty := .int) fa_X11_restore_29 dX11_restore_2 (by decide +kernel) rfl rfl (by decide) rfl rfl rfl ?_
  refine m_iload_n (pc' := 6) dX11_restore_5 rfl rfl ?_
  refine m_iconst (pc' := 7) (v := 0) dX11_restore_6 (by decide) rfl ?_
  refine m_iconst (pc' := 8) (v := 1) dX11_restore_7 (by decide) rfl ?_
  refine m_callS (pc' := 11) (A := [.int (nI p), .int 0, .int 1]) (rest := []) cl_X11_restore_40 dX11_restore_8 rfl rfl (Nat.le_of_ble_eq_true rfl) ⟨by decide, by decide⟩ rfl rfl ?_
  refine c_in ?_
  show mM G mX11_restore 11 [some (.ref 214), some (.int (nI p)), none, none] [.int (bin (nI p) 0 1)] S1 (u2 d.1 214 0 0, d.2) (0, 0) Q
  rw [show (bin (nI p) 0 1) = 1 from bin_1 h1]
  refine m_if_ne (tgt := 17) (pc' := 14) dX11_restore_11 (by decide) rfl (fun h11 => ?_) (fun h11 => absurd h11 (by decide))
  refine m_sipush (pc' := 20) (v := 254) dX11_restore_17 (by decide) rfl ?_
  refine m_bipush (pc' := 22) (v := 77) dX11_restore_20 (by decide) rfl ?_
  refine m_iload_n (pc' := 23) dX11_restore_22 rfl rfl ?_
  refine m_imul (pc' := 24) dX11_restore_23 rfl ?_
  refine m_iadd (pc' := 25) dX11_restore_24 rfl ?_
  rw [show (254 + (77 * (nI p))) = (nI (254 + 77 * p)) from ix_t p]
  refine m_istore_n (pc' := 26) dX11_restore_25 (by decide) rfl rfl ?_
  refine m_aload_n (pc' := 27) dX11_restore_26 rfl rfl ?_
  refine m_getR (pc' := 30) fa_X11_restore_7 dX11_restore_27 (by decide) rfl rfl rfl rfl ?_
  refine m_iload_n (pc' := 31) dX11_restore_30 rfl rfl ?_
  refine m_ialdN (pc' := 32) (j := 254 + 77 * p) (L := 408) dX11_restore_31 (by decide) rfl rfl (rfl) (by omega) (by decide) rfl ?_
  show mM G mX11_restore 32 [some (.ref 214), some (.int (nI p)), some (.int (nI (254 + 77 * p))), none] [.int (d.1 215 (254 + 77 * p))] S1 (u2 d.1 214 0 0, d.2) (0, 0) Q
  rw [show (d.1 215 (254 + 77 * p)) = ((a_s A) (254 + 77 * p)) from congrFun hs (254 + 77 * p)]
  refine m_if_ne (tgt := 38) (pc' := 35) dX11_restore_32 (by decide) rfl (fun h32 => ?_) (fun h32 => absurd h32 (h2))
  refine m_aload_n (pc' := 39) dX11_restore_38 rfl rfl ?_
  refine m_callV (pc' := 42) (A := []) (rest := []) (b := 214) cl_X11_restore_112 dX11_restore_39 rfl rfl (Nat.le_of_ble_eq_true rfl) ⟨by decide, by decide⟩ (by decide) rfl rfl rfl rfl ?_
  refine c_mact (s := a_s A) (h := a_h A) hM0.1 hM0.2.1 hM0.2.2.1 hM0.2.2.2.1 hM0.2.2.2.2.1 hM0.2.2.2.2.2.1 (fun g g0 g1 g2 g3 => ?_)
  show mM G mX11_restore 42 [some (.ref 214), some (.int (nI p)), some (.int (nI (254 + 77 * p))), none] [] S1 g (0, 0) Q
  have gM := hM0.act g0 g1 g2 g3
  have hs : g.1 215 = a_s A := gM.1
  refine m_iconst (pc' := 43) (v := 0) dX11_restore_42 (by decide) rfl ?_
  refine m_istore_n (pc' := 44) dX11_restore_43 (by decide) rfl rfl ?_
  exact J 76 0 _ (by omega) (mfr.th.trans (act_mf g0)) (by rw [cpi_0]; exact gM)
theorem MM.chg {d : Dt} {s v t : SS} {m n : Nat} {c : Nat → UInt32} {h : UInt32} (hM : MM d (s, m, v, c, h, t, n)) (h' : UInt32) : MM (d.1, u2 d.2 214 6 h') (s, m, v, c, h', t, n) := by
  obtain ⟨h1, h2, h3, h4, h5, h6, h7, h8⟩ := hM
  exact ⟨h1, h2, h3, h4, (show u2 d.2 214 6 h' 218 = _ from u2_ne (show 218 ≠ 214 by decide)).trans h5, (show u2 d.2 214 6 h' 214 6 = _ from u2_same), h7, h8⟩
theorem MM.cnt {d : Dt} {s v t : SS} {m n : Nat} {c : Nat → UInt32} {h : UInt32} (hM : MM d (s, m, v, c, h, t, n)) {m' : Nat} {x : Int32} (h' : m' ≤ 5) (e : x = nI m') : MM (u2 d.1 214 5 x, d.2) (s, m', v, c, h, t, n) := by
  obtain ⟨h1, h2, h3, h4, h5, h6, h7, h8⟩ := hM
  exact ⟨(show u2 d.1 214 5 x 215 = _ from u2_ne (show 215 ≠ 214 by decide)).trans h1, h', (show u2 d.1 214 5 x 214 5 = _ from u2_same).trans e, (show u2 d.1 214 5 x 217 = _ from u2_ne (show 217 ≠ 214 by decide)).trans h4, h5, h6, (show u2 d.1 214 5 x 219 = _ from u2_ne (show 219 ≠ 214 by decide)).trans h7, (show u2 d.1 214 5 x 214 8 = _ from u2_oth (show 8 ≠ 5 by decide) 214).trans h8⟩
theorem MM.len {d : Dt} {s v t : SS} {m n : Nat} {c : Nat → UInt32} {h : UInt32} (hM : MM d (s, m, v, c, h, t, n)) {n' : Nat} {x : Int32} (e : x = nI n') : MM (u2 d.1 214 8 x, d.2) (s, m, v, c, h, t, n') := by
  obtain ⟨h1, h2, h3, h4, h5, h6, h7, h8⟩ := hM
  exact ⟨(show u2 d.1 214 8 x 215 = _ from u2_ne (show 215 ≠ 214 by decide)).trans h1, h2, (show u2 d.1 214 8 x 214 5 = _ from u2_oth (show 5 ≠ 8 by decide) 214).trans h3, (show u2 d.1 214 8 x 217 = _ from u2_ne (show 217 ≠ 214 by decide)).trans h4, h5, h6, (show u2 d.1 214 8 x 219 = _ from u2_ne (show 219 ≠ 214 by decide)).trans h7, (show u2 d.1 214 8 x 214 8 = _ from u2_same).trans e⟩
theorem MM.txt {d : Dt} {s v t : SS} {m n : Nat} {c : Nat → UInt32} {h : UInt32} (hM : MM d (s, m, v, c, h, t, n)) {k : Nat} {x : Int32} : MM (u2 d.1 219 k x, d.2) (s, m, v, c, h, sU t k x, n) := by
  obtain ⟨h1, h2, h3, h4, h5, h6, h7, h8⟩ := hM
  exact ⟨(show u2 d.1 219 k x 215 = _ from u2_ne (show 215 ≠ 219 by decide)).trans h1, h2, (show u2 d.1 219 k x 214 5 = d.1 214 5 from congrFun (u2_ne (show 214 ≠ 219 by decide)) 5).trans h3, (show u2 d.1 219 k x 217 = _ from u2_ne (show 217 ≠ 219 by decide)).trans h4, h5, h6, u2_row h7, (show u2 d.1 219 k x 214 8 = d.1 214 8 from congrFun (u2_ne (show 214 ≠ 219 by decide)) 8).trans h8⟩
set_option maxHeartbeats 4000000 in
set_option maxRecDepth 100000 in
theorem p_undo {A : AS}  (hM : MM d A)  (hQ : ∀ d', mfr d d' → MM d' (opUndo A).2 → Q (some (.int (opUndo A).1)) S1 d') : mC G mX11_undo [.ref 214] S1 d Q := by
  by_cases h1 : a_m A = 0
  · skip
    rw [show opUndo A = (eS, A) from if_pos h1] at hQ
    refine mC_of (by decide +kernel) ⟨_, rfl⟩ (Nat.le_of_ble_eq_true rfl) ?_
    show mM G mX11_undo 0 [some (.ref 214), none] [] S1 d (0, 0) Q
    refine m_aload_n (pc' := 1) dX11_undo_0 rfl rfl ?_
    refine m_iconst (pc' := 2) (v := 0) dX11_undo_1 (by decide) rfl ?_
    refine m_putI (pc' := 5) (ty := .int) fa_X11_undo_29 dX11_undo_2 (by decide +kernel) rfl rfl (by decide) rfl rfl rfl ?_
    refine m_aload_n (pc' := 6) dX11_undo_5 rfl rfl ?_
    refine m_getI (pc' := 9) fa_X11_undo_33 dX11_undo_6 (by decide) rfl rfl rfl ?_
    show mM G mX11_undo 9 [some (.ref 214), none] [.int (d.1 214 5)] S1 (u2 d.1 214 0 0, d.2) (0, 0) Q
    rw [show (d.1 214 5) = 0 from hM.2.2.1.trans (by rw [h1]; rfl)]
    refine m_if_ne (tgt := 15) (pc' := 12) dX11_undo_9 (by decide) rfl (fun h9 => absurd h9 (by decide)) (fun h9 => ?_)
    refine m_ldc (pc' := 14) dX11_undo_12 kc_X11_undo_139 rfl ?_
    refine m_iret dX11_undo_14 rfl rfl ⟨by decide, by decide⟩ ?_
    exact hQ _ mfr.th hM.th
  have hM0 := hM.th
  obtain ⟨m, hm⟩ : ∃ m, a_m A = m + 1 := ⟨a_m A - 1, by omega⟩
  have hm5 := hM.2.1
  have e5 : d.1 214 5 = nI (m + 1) := hM.2.2.1.trans (by rw [hm])
  rw [show opUndo A = (nI m, (cpr (fun j => a_v A (408 * m + j)) (a_s A), m, a_v A, a_c A, a_c A m, a_t A, a_n A)) from by unfold opUndo; rw [if_neg h1, hm]; rfl] at hQ
  have J : ∀ (n0 : Nat) (i : Nat) (d1 : Dt) (_ : i + n0 = 408) (_ : mfr d d1) (_ : MM d1 (cpi (fun j => a_v A (408 * m + j)) (a_s A) i, m, a_v A, a_c A, a_h A, a_t A, a_n A)), mM G mX11_undo 27 [some (.ref 214), some (.int (nI i))] [] S1 d1 (0, 0) Q := by
    intro n0
    induction n0 with
    | zero =>
      intro i d1 hk hd hM1
      refine m_iload_n (pc' := 28) dX11_undo_27 rfl rfl ?_
      refine m_sipush (pc' := 31) (v := 408) dX11_undo_28 (by decide) rfl ?_
      refine m_icmp_ge (tgt := 61) (pc' := 34) dX11_undo_31 (by decide) rfl (fun h31 => ?_) (fun h31 => (h31 (nI_le (a := 408) (by omega) (by omega))).elim)
      refine m_aload_n (pc' := 62) dX11_undo_61 rfl rfl ?_
      refine m_aload_n (pc' := 63) dX11_undo_62 rfl rfl ?_
      refine m_getR (pc' := 66) fa_X11_undo_19 dX11_undo_63 (by decide) rfl rfl rfl rfl ?_
      refine m_aload_n (pc' := 67) dX11_undo_66 rfl rfl ?_
      refine m_getI (pc' := 70) fa_X11_undo_33 dX11_undo_67 (by decide) rfl rfl rfl ?_
      rw [show (d1.1 214 5) = (nI m) from hM1.2.2.1]
      refine m_faldN (pc' := 71) (j := m) (L := 5) dX11_undo_70 (by decide) rfl rfl (rfl) (by omega) (by decide) rfl ?_
      rw [show (d1.2 218 m) = (a_c A m) from congrFun hM1.2.2.2.2.1 m]
      refine m_putFl (pc' := 74) fa_X11_undo_36 dX11_undo_71 (by decide) rfl rfl rfl ?_
      refine m_aload_n (pc' := 75) dX11_undo_74 rfl rfl ?_
      refine m_getI (pc' := 78) fa_X11_undo_33 dX11_undo_75 (by decide) rfl rfl rfl ?_
      show mM G mX11_undo 78 [some (.ref 214), some (.int (nI i))] [.int (d1.1 214 5)] S1 (d1.1, u2 d1.2 214 6 (a_c A m)) (0, 0) Q
      rw [show (d1.1 214 5) = (nI m) from hM1.2.2.1]
      refine m_iret dX11_undo_78 rfl rfl ⟨by decide, by decide⟩ ?_
      obtain rfl : i = 408 := by omega
      exact hQ _ (fr.f hd _ (by decide)) (hM1.chg _)
    | succ n0 ih =>
      intro i d1 hk hd hM1
      refine m_iload_n (pc' := 28) dX11_undo_27 rfl rfl ?_
      refine m_sipush (pc' := 31) (v := 408) dX11_undo_28 (by decide) rfl ?_
      refine m_icmp_ge (tgt := 61) (pc' := 34) dX11_undo_31 (by decide) rfl (fun h31 => absurd h31 (nI_ge (b := 408) (by omega) (by omega))) (fun h31 => ?_)
      refine m_aload_n (pc' := 35) dX11_undo_34 rfl rfl ?_
      refine m_getR (pc' := 38) fa_X11_undo_7 dX11_undo_35 (by decide) rfl rfl rfl rfl ?_
      refine m_iload_n (pc' := 39) dX11_undo_38 rfl rfl ?_
      refine m_aload_n (pc' := 40) dX11_undo_39 rfl rfl ?_
      refine m_getR (pc' := 43) fa_X11_undo_16 dX11_undo_40 (by decide) rfl rfl rfl rfl ?_
      refine m_sipush (pc' := 46) (v := 408) dX11_undo_43 (by decide) rfl ?_
      refine m_aload_n (pc' := 47) dX11_undo_46 rfl rfl ?_
      refine m_getI (pc' := 50) fa_X11_undo_33 dX11_undo_47 (by decide) rfl rfl rfl ?_
      rw [show (d1.1 214 5) = (nI m) from hM1.2.2.1]
      refine m_imul (pc' := 51) dX11_undo_50 rfl ?_
      refine m_iload_n (pc' := 52) dX11_undo_51 rfl rfl ?_
      refine m_iadd (pc' := 53) dX11_undo_52 rfl ?_
      refine m_ialdN (pc' := 54) (j := 408 * m + i) (L := 2040) dX11_undo_53 (by decide) rfl rfl (ix_s m i) (by omega) (by decide) rfl ?_
      rw [show (d1.1 217 (408 * m + i)) = (a_v A (408 * m + i)) from congrFun hM1.2.2.2.1 _]
      refine m_iastN (pc' := 55) (j := i) (L := 408) dX11_undo_54 (by decide) rfl rfl (rfl) (by omega) (by decide) rfl ?_
      refine m_iinc (pc' := 58) dX11_undo_55 rfl (by decide) (v := nI (i + 1)) (nI_1 i) rfl rfl ?_
      refine m_goto (tgt := 27) dX11_undo_58 (by decide) ?_
      exact ih (i + 1) _ (by omega) (mfr_put hd) (hM1.put' (cpi_s (fun j => a_v A (408 * m + j)) (a_s A) i))
  refine mC_of (by decide +kernel) ⟨_, rfl⟩ (Nat.le_of_ble_eq_true rfl) ?_
  show mM G mX11_undo 0 [some (.ref 214), none] [] S1 d (0, 0) Q
  refine m_aload_n (pc' := 1) dX11_undo_0 rfl rfl ?_
  refine m_iconst (pc' := 2) (v := 0) dX11_undo_1 (by decide) rfl ?_
  refine m_putI (pc' := 5) (ty := .int) fa_X11_undo_29 dX11_undo_2 (by decide +kernel) rfl rfl (by decide) rfl rfl rfl ?_
  refine m_aload_n (pc' := 6) dX11_undo_5 rfl rfl ?_
  refine m_getI (pc' := 9) fa_X11_undo_33 dX11_undo_6 (by decide) rfl rfl rfl ?_
  show mM G mX11_undo 9 [some (.ref 214), none] [.int (d.1 214 5)] S1 (u2 d.1 214 0 0, d.2) (0, 0) Q
  rw [show (d.1 214 5) = (nI (m + 1)) from e5]
  refine m_if_ne (tgt := 15) (pc' := 12) dX11_undo_9 (by decide) rfl (fun h9 => ?_) (fun h9 => absurd h9 (nI_ne0 (by omega) (by omega)))
  refine m_aload_n (pc' := 16) dX11_undo_15 rfl rfl ?_
  refine m_dup (pc' := 17) dX11_undo_16 rfl ?_
  refine m_getI (pc' := 20) fa_X11_undo_33 dX11_undo_17 (by decide) rfl rfl rfl ?_
  show mM G mX11_undo 20 [some (.ref 214), none] [.int (d.1 214 5), .ref 214] S1 (u2 d.1 214 0 0, d.2) (0, 0) Q
  rw [show (d.1 214 5) = (nI (m + 1)) from e5]
  refine m_iconst (pc' := 21) (v := 1) dX11_undo_20 (by decide) rfl ?_
  refine m_isub (pc' := 22) dX11_undo_21 rfl ?_
  rw [show ((nI (m + 1)) - 1) = (nI m) from nI_pred m]
  refine m_putI (pc' := 25) (ty := .int) fa_X11_undo_33 dX11_undo_22 (by decide +kernel) rfl rfl (by decide) rfl rfl rfl ?_
  refine m_iconst (pc' := 26) (v := 0) dX11_undo_25 (by decide) rfl ?_
  refine m_istore_n (pc' := 27) dX11_undo_26 (by decide) rfl rfl ?_
  exact J 408 0 _ (by omega) (fr.i mfr.th _ (by decide)) (by rw [cpi_0]; exact MM.cnt (m := a_m A) hM0 (by omega) rfl)
set_option maxHeartbeats 4000000 in
set_option maxRecDepth 100000 in
theorem p_append {A : AS} {c : Int32} (hM : MM d A) (hO : OK A) (hQ : ∀ d', mfr d d' → MM d' (opAppend A c).2 → Q (some (.int (opAppend A c).1)) S1 d') : mC G mX11_append [.ref 214, .int c] S1 d Q := by
  by_cases h1 : bin c 1 255 = 0
  · skip
    rw [show opAppend A c = (eI, A) from if_pos h1] at hQ
    refine mC_of (by decide +kernel) ⟨_, rfl⟩ (Nat.le_of_ble_eq_true rfl) ?_
    show mM G mX11_append 0 [some (.ref 214), some (.int c)] [] S1 d (0, 0) Q
    refine m_aload_n (pc' := 1) dX11_append_0 rfl rfl ?_
    refine m_iconst (pc' := 2) (v := 0) dX11_append_1 (by decide) rfl ?_
    refine m_putI (pc' := 5) (ty := .int) fa_X11_append_29 dX11_append_2 (by decide +kernel) rfl rfl (by decide) rfl rfl rfl ?_
    refine m_iload_n (pc' := 6) dX11_append_5 rfl rfl ?_
    refine m_iconst (pc' := 7) (v := 1) dX11_append_6 (by decide) rfl ?_
    refine m_sipush (pc' := 10) (v := 255) dX11_append_7 (by decide) rfl ?_
    refine m_callS (pc' := 13) (A := [.int c, .int 1, .int 255]) (rest := []) cl_X11_append_40 dX11_append_10 rfl rfl (Nat.le_of_ble_eq_true rfl) ⟨by decide, by decide⟩ rfl rfl ?_
    refine c_in ?_
    show mM G mX11_append 13 [some (.ref 214), some (.int c)] [.int (bin c 1 255)] S1 (u2 d.1 214 0 0, d.2) (0, 0) Q
    rw [show (bin c 1 255) = 0 from h1]
    refine m_if_ne (tgt := 19) (pc' := 16) dX11_append_13 (by decide) rfl (fun h13 => absurd h13 (by decide)) (fun h13 => ?_)
    refine m_ldc (pc' := 18) dX11_append_16 kc_X11_append_111 rfl ?_
    refine m_iret dX11_append_18 rfl rfl ⟨by decide, by decide⟩ ?_
    exact hQ _ mfr.th hM.th
  obtain ⟨n, hn⟩ : ∃ n, a_n A = n := ⟨_, rfl⟩
  have e8 : d.1 214 8 = nI n := hM.2.2.2.2.2.2.2.trans (by rw [hn])
  have hn140 : n ≤ 140 := hn ▸ hO.2.2.2.1
  by_cases h2 : n = 140
  · skip
    rw [show opAppend A c = (eC, A) from by unfold opAppend; rw [if_neg h1, if_pos (hn.trans h2)]] at hQ
    subst h2
    refine mC_of (by decide +kernel) ⟨_, rfl⟩ (Nat.le_of_ble_eq_true rfl) ?_
    show mM G mX11_append 0 [some (.ref 214), some (.int c)] [] S1 d (0, 0) Q
    refine m_aload_n (pc' := 1) dX11_append_0 rfl rfl ?_
    refine m_iconst (pc' := 2) (v := 0) dX11_append_1 (by decide) rfl ?_
    refine m_putI (pc' := 5) (ty := .int) fa_X11_append_29 dX11_append_2 (by decide +kernel) rfl rfl (by decide) rfl rfl rfl ?_
    refine m_iload_n (pc' := 6) dX11_append_5 rfl rfl ?_
    refine m_iconst (pc' := 7) (v := 1) dX11_append_6 (by decide) rfl ?_
    refine m_sipush (pc' := 10) (v := 255) dX11_append_7 (by decide) rfl ?_
    refine m_callS (pc' := 13) (A := [.int c, .int 1, .int 255]) (rest := []) cl_X11_append_40 dX11_append_10 rfl rfl (Nat.le_of_ble_eq_true rfl) ⟨by decide, by decide⟩ rfl rfl ?_
    refine c_in ?_
    show mM G mX11_append 13 [some (.ref 214), some (.int c)] [.int (bin c 1 255)] S1 (u2 d.1 214 0 0, d.2) (0, 0) Q
    rw [show (bin c 1 255) = 1 from bin_1 h1]
    refine m_if_ne (tgt := 19) (pc' := 16) dX11_append_13 (by decide) rfl (fun h13 => ?_) (fun h13 => absurd h13 (by decide))
    refine m_aload_n (pc' := 20) dX11_append_19 rfl rfl ?_
    refine m_getI (pc' := 23) fa_X11_append_147 dX11_append_20 (by decide) rfl rfl rfl ?_
    show mM G mX11_append 23 [some (.ref 214), some (.int c)] [.int (d.1 214 8)] S1 (u2 d.1 214 0 0, d.2) (0, 0) Q
    rw [show (d.1 214 8) = 140 from e8]
    refine m_sipush (pc' := 26) (v := 140) dX11_append_23 (by decide) rfl ?_
    refine m_icmp_ne (tgt := 32) (pc' := 29) dX11_append_26 (by decide) rfl (fun h26 => absurd h26 (by decide)) (fun h26 => ?_)
    refine m_ldc (pc' := 31) dX11_append_29 kc_X11_append_122 rfl ?_
    refine m_iret dX11_append_31 rfl rfl ⟨by decide, by decide⟩ ?_
    exact hQ _ mfr.th hM.th
  have hM0 := hM.th
  rw [show opAppend A c = (nI (n + 1), (a_s A, a_m A, a_v A, a_c A, a_h A, sU (a_t A) n c, n + 1)) from by unfold opAppend; rw [if_neg h1, hn, if_neg h2]] at hQ
  refine mC_of (by decide +kernel) ⟨_, rfl⟩ (Nat.le_of_ble_eq_true rfl) ?_
  show mM G mX11_append 0 [some (.ref 214), some (.int c)] [] S1 d (0, 0) Q
  refine m_aload_n (pc' := 1) dX11_append_0 rfl rfl ?_
  refine m_iconst (pc' := 2) (v := 0) dX11_append_1 (by decide) rfl ?_
  refine m_putI (pc' := 5) (ty := .int) fa_X11_append_29 dX11_append_2 (by decide +kernel) rfl rfl (by decide) rfl rfl rfl ?_
  refine m_iload_n (pc' := 6) dX11_append_5 rfl rfl ?_
  refine m_iconst (pc' := 7) (v := 1) dX11_append_6 (by decide) rfl ?_
  refine m_sipush (pc' := 10) (v := 255) dX11_append_7 (by decide) rfl ?_
  refine m_callS (pc' := 13) (A := [.int c, .int 1, .int 255]) (rest := []) cl_X11_append_40 dX11_append_10 rfl rfl (Nat.le_of_ble_eq_true rfl) ⟨by decide, by decide⟩ rfl rfl ?_
  refine c_in ?_
  show mM G mX11_append 13 [some (.ref 214), some (.int c)] [.int (bin c 1 255)] S1 (u2 d.1 214 0 0, d.2) (0, 0) Q
  rw [show (bin c 1 255) = 1 from bin_1 h1]
  refine m_if_ne (tgt := 19) (pc' := 16) dX11_append_13 (by decide) rfl (fun h13 => ?_) (fun h13 => absurd h13 (by decide))
  refine m_aload_n (pc' := 20) dX11_append_19 rfl rfl ?_
  refine m_getI (pc' := 23) fa_X11_append_147 dX11_append_20 (by decide) rfl rfl rfl ?_
  show mM G mX11_append 23 [some (.ref 214), some (.int c)] [.int (d.1 214 8)] S1 (u2 d.1 214 0 0, d.2) (0, 0) Q
  rw [show (d.1 214 8) = (nI n) from e8]
  refine m_sipush (pc' := 26) (v := 140) dX11_append_23 (by decide) rfl ?_
  refine m_icmp_ne (tgt := 32) (pc' := 29) dX11_append_26 (by decide) rfl (fun h26 => ?_) (fun h26 => absurd h26 (fun h => h2 ((nI_eq (b := 140) (by omega) (by decide)).mp h)))
  refine m_aload_n (pc' := 33) dX11_append_32 rfl rfl ?_
  refine m_getR (pc' := 36) fa_X11_append_23 dX11_append_33 (by decide) rfl rfl rfl rfl ?_
  refine m_aload_n (pc' := 37) dX11_append_36 rfl rfl ?_
  refine m_getI (pc' := 40) fa_X11_append_147 dX11_append_37 (by decide) rfl rfl rfl ?_
  show mM G mX11_append 40 [some (.ref 214), some (.int c)] [.int (d.1 214 8), .ref 219] S1 (u2 d.1 214 0 0, d.2) (0, 0) Q
  rw [show (d.1 214 8) = (nI n) from e8]
  refine m_iload_n (pc' := 41) dX11_append_40 rfl rfl ?_
  refine m_iastN (pc' := 42) (j := n) (L := 140) dX11_append_41 (by decide) rfl rfl (rfl) (by omega) (by decide) rfl ?_
  refine m_aload_n (pc' := 43) dX11_append_42 rfl rfl ?_
  refine m_dup (pc' := 44) dX11_append_43 rfl ?_
  refine m_getI (pc' := 47) fa_X11_append_147 dX11_append_44 (by decide) rfl rfl rfl ?_
  show mM G mX11_append 47 [some (.ref 214), some (.int c)] [.int (d.1 214 8), .ref 214] S1 (u2 (u2 d.1 214 0 0) 219 n c, d.2) (0, 0) Q
  rw [show (d.1 214 8) = (nI n) from e8]
  refine m_iconst (pc' := 48) (v := 1) dX11_append_47 (by decide) rfl ?_
  refine m_iadd (pc' := 49) dX11_append_48 rfl ?_
  rw [show ((nI n) + 1) = (nI (n + 1)) from nI_1 n]
  refine m_putI (pc' := 52) (ty := .int) fa_X11_append_147 dX11_append_49 (by decide +kernel) rfl rfl (by decide) rfl rfl rfl ?_
  refine m_aload_n (pc' := 53) dX11_append_52 rfl rfl ?_
  refine m_getI (pc' := 56) fa_X11_append_147 dX11_append_53 (by decide) rfl rfl rfl ?_
  show mM G mX11_append 56 [some (.ref 214), some (.int c)] [.int (nI (n + 1))] S1 (u2 (u2 (u2 d.1 214 0 0) 219 n c) 214 8 (nI (n + 1)), d.2) (0, 0) Q
  refine m_iret dX11_append_56 rfl rfl ⟨by decide, by decide⟩ ?_
  exact hQ _ (fr.i (fr.i mfr.th _ (show 214 ≤ 219 by decide)) _ (show 214 ≤ 214 by decide)) (MM.len (MM.txt (n := a_n A) hM0) rfl)
set_option maxHeartbeats 4000000 in
set_option maxRecDepth 100000 in
theorem p_clearText {A : AS}  (hM : MM d A)  (hQ : ∀ d', mfr d d' → MM d' (opClear A).2 → Q (some (.int (opClear A).1)) S1 d') : mC G mX11_clearText [.ref 214] S1 d Q := by
  have hM0 := hM.th
  refine mC_of (by decide +kernel) ⟨_, rfl⟩ (Nat.le_of_ble_eq_true rfl) ?_
  show mM G mX11_clearText 0 [some (.ref 214), none] [] S1 d (0, 0) Q
  refine m_aload_n (pc' := 1) dX11_clearText_0 rfl rfl ?_
  refine m_iconst (pc' := 2) (v := 0) dX11_clearText_1 (by decide) rfl ?_
  refine m_putI (pc' := 5) (ty := .int) fa_X11_clearText_29 dX11_clearText_2 (by decide +kernel) rfl rfl (by decide) rfl rfl rfl ?_
  refine m_aload_n (pc' := 6) dX11_clearText_5 rfl rfl ?_
  refine m_getI (pc' := 9) fa_X11_clearText_147 dX11_clearText_6 (by decide) rfl rfl rfl ?_
  show mM G mX11_clearText 9 [some (.ref 214), none] [.int (d.1 214 8)] S1 (u2 d.1 214 0 0, d.2) (0, 0) Q
  rw [show (d.1 214 8) = (nI (a_n A)) from hM.2.2.2.2.2.2.2]
  refine m_istore_n (pc' := 10) dX11_clearText_9 (by decide) rfl rfl ?_
  refine m_aload_n (pc' := 11) dX11_clearText_10 rfl rfl ?_
  refine m_iconst (pc' := 12) (v := 0) dX11_clearText_11 (by decide) rfl ?_
  refine m_putI (pc' := 15) (ty := .int) fa_X11_clearText_147 dX11_clearText_12 (by decide +kernel) rfl rfl (by decide) rfl rfl rfl ?_
  refine m_iload_n (pc' := 16) dX11_clearText_15 rfl rfl ?_
  refine m_iret dX11_clearText_16 rfl rfl ⟨by decide, by decide⟩ ?_
  exact hQ _ (fr.i mfr.th _ (by decide)) (MM.len (n := a_n A) hM0 rfl)
end MOD7
