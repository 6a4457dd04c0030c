/-! THE CLASS'S OWN CALLS (5) -/
section CLS13
variable {G : GP} {Q : Option Value → Sh → Dt → Prop} {d : Dt}
theorem ch_1 {c : Nat} (h : c ≤ 255) : ((nI c).toUInt32 % 65536).toInt32 = nI c := by
  have : ∀ k : Fin 256, ((nI k.1).toUInt32 % 65536).toInt32 = nI k.1 := by decide +kernel
  exact this ⟨c, by omega⟩
theorem ch_2 {c : Nat} (h : c ≤ 255) : vp_nar .char (nI c) = nI c := by
  have : ∀ k : Fin 256, vp_nar .char (nI k.1) = nI k.1 := by decide +kernel
  exact this ⟨c, by omega⟩
set_option maxHeartbeats 4000000 in
set_option maxRecDepth 100000 in
theorem k_chan5 {A : AS} {c : Nat} (hC : CR d A) (hO : OK A) (hc7 : c ≤ 7) (hQ : ∀ d', cfr d d' → CR d' A → Q (some (.int (vChannel A (nI c) 5))) S1 d') : mC G mX10_channel [.ref 0, .int (nI c), .int 5] S1 d Q := by
  have hb1 : bin (nI c) 0 7 = 1 := bin_nI (b := 7) (by omega)
  rw [show vChannel A (nI c) 5 = if a_s A (78 + c) = -1 then eN else a_s A (78 + c) from by unfold vChannel; rw [if_neg (not_or.mpr ⟨by rw [hb1]; decide, by decide⟩), if_pos rfl, nn_nI (by omega)]] at hQ
  refine mC_of (by decide +kernel) ⟨_, rfl⟩ (Nat.le_of_ble_eq_true rfl) ?_
  show mM G mX10_channel 0 [some (.ref 0), some (.int (nI c)), some (.int 5)] [] S1 d (0, 0) Q
  refine m_iload_n (pc' := 1) dX10_channel_0 rfl rfl ?_
  refine m_callS (pc' := 4) (A := [.int (nI c)]) (rest := []) cl_X10_channel_51 dX10_channel_1 rfl rfl (Nat.le_of_ble_eq_true rfl) ⟨by decide, by decide⟩ rfl rfl ?_
  refine c_isCh ?_
  show mM G mX10_channel 4 [some (.ref 0), some (.int (nI c)), some (.int 5)] [.int (bin (nI c) 0 7)] S1 d (0, 0) Q
  rw [show (bin (nI c) 0 7) = 1 from hb1]
  refine m_if_eq (tgt := 17) (pc' := 7) dX10_channel_4 (by decide) rfl (fun h4 => absurd h4 (by decide)) (fun h4 => ?_)
  refine m_iload_n (pc' := 8) dX10_channel_7 rfl rfl ?_
  refine m_iconst (pc' := 9) (v := 0) dX10_channel_8 (by decide) rfl ?_
  refine m_bipush (pc' := 11) (v := 7) dX10_channel_9 (by decide) rfl ?_
  refine m_callS (pc' := 14) (A := [.int 5, .int 0, .int 7]) (rest := []) cl_X10_channel_81 dX10_channel_11 rfl rfl (Nat.le_of_ble_eq_true rfl) ⟨by decide, by decide⟩ rfl rfl ?_
  refine c_within ?_
  show mM G mX10_channel 14 [some (.ref 0), some (.int (nI c)), some (.int 5)] [.int (bin 5 0 7)] S1 d (0, 0) Q
  rw [show (bin 5 0 7) = 1 from rfl]
  refine m_if_ne (tgt := 20) (pc' := 17) dX10_channel_14 (by decide) rfl (fun h14 => ?_) (fun h14 => absurd h14 (by decide))
  refine m_iload_n (pc' := 21) dX10_channel_20 rfl rfl ?_
  refine m_tableIn (tgt := 48) (off := 27) dX10_channel_21 (by decide) (by decide) rfl (by decide) ?_
  refine m_aload_n (pc' := 49) dX10_channel_48 rfl rfl ?_
  refine m_getR (pc' := 52) fa_X10_channel_10 dX10_channel_49 (by decide) rfl rfl rfl rfl ?_
  refine m_getR (pc' := 55) fa_X10_channel_213 dX10_channel_52 (by decide) rfl rfl rfl rfl ?_
  refine m_iload_n (pc' := 56) dX10_channel_55 rfl rfl ?_
  refine m_iconst (pc' := 57) (v := 0) dX10_channel_56 (by decide) rfl ?_
  refine m_callV (pc' := 60) (A := [.int (nI c), .int 0]) (rest := []) (b := 12) cl_X10_channel_71 dX10_channel_57 rfl rfl (Nat.le_of_ble_eq_true rfl) ⟨by decide, by decide⟩ (by decide) rfl rfl rfl rfl ?_
  refine c_atN (t := 12) (W := 1) (L := 10) (a := c) (b := 0) (k := c) (isT_lit (by decide +kernel)) (by decide) (by omega) (by omega) ?_
  show mM G mX10_channel 60 [some (.ref 0), some (.int (nI c)), some (.int 5)] [.int (d.1 13 c)] S1 d (0, 0) Q
  rw [show (d.1 13 c) = (if a_s A (78 + c) = -1 then eN else a_s A (78 + c)) from hC.1.2.2.1 c (by omega)]
  refine m_iret dX10_channel_60 rfl rfl ⟨by decide, by decide⟩ ?_
  exact hQ _ fr.rfl hC
set_option maxHeartbeats 4000000 in
set_option maxRecDepth 100000 in
theorem k_chan6 {A : AS} {c : Nat} (hC : CR d A) (hO : OK A) (hc7 : c ≤ 7) (hQ : ∀ d', cfr d d' → CR d' A → Q (some (.int (vChannel A (nI c) 6))) S1 d') : mC G mX10_channel [.ref 0, .int (nI c), .int 6] S1 d Q := by
  have hb1 : bin (nI c) 0 7 = 1 := bin_nI (b := 7) (by omega)
  obtain ⟨r0, h41, h40⟩ := hO.1.1.2.1
  rw [show vChannel A (nI c) 6 = cor (a_s A) (a_s A (78 + c)) (a_s A 86) (a_s A 87) from by unfold vChannel; rw [if_neg (not_or.mpr ⟨by rw [hb1]; decide, by decide⟩), if_neg (by decide), if_pos rfl, nn_nI (by omega)]] at hQ
  refine mC_of (by decide +kernel) ⟨_, rfl⟩ (Nat.le_of_ble_eq_true rfl) ?_
  show mM G mX10_channel 0 [some (.ref 0), some (.int (nI c)), some (.int 6)] [] S1 d (0, 0) Q
  refine m_iload_n (pc' := 1) dX10_channel_0 rfl rfl ?_
  refine m_callS (pc' := 4) (A := [.int (nI c)]) (rest := []) cl_X10_channel_51 dX10_channel_1 rfl rfl (Nat.le_of_ble_eq_true rfl) ⟨by decide, by decide⟩ rfl rfl ?_
  refine c_isCh ?_
  show mM G mX10_channel 4 [some (.ref 0), some (.int (nI c)), some (.int 6)] [.int (bin (nI c) 0 7)] S1 d (0, 0) Q
  rw [show (bin (nI c) 0 7) = 1 from hb1]
  refine m_if_eq (tgt := 17) (pc' := 7) dX10_channel_4 (by decide) rfl (fun h4 => absurd h4 (by decide)) (fun h4 => ?_)
  refine m_iload_n (pc' := 8) dX10_channel_7 rfl rfl ?_
  refine m_iconst (pc' := 9) (v := 0) dX10_channel_8 (by decide) rfl ?_
  refine m_bipush (pc' := 11) (v := 7) dX10_channel_9 (by decide) rfl ?_
  refine m_callS (pc' := 14) (A := [.int 6, .int 0, .int 7]) (rest := []) cl_X10_channel_81 dX10_channel_11 rfl rfl (Nat.le_of_ble_eq_true rfl) ⟨by decide, by decide⟩ rfl rfl ?_
  refine c_within ?_
  show mM G mX10_channel 14 [some (.ref 0), some (.int (nI c)), some (.int 6)] [.int (bin 6 0 7)] S1 d (0, 0) Q
  rw [show (bin 6 0 7) = 1 from rfl]
  refine m_if_ne (tgt := 20) (pc' := 17) dX10_channel_14 (by decide) rfl (fun h14 => ?_) (fun h14 => absurd h14 (by decide))
  refine m_iload_n (pc' := 21) dX10_channel_20 rfl rfl ?_
  refine m_tableIn (tgt := 61) (off := 40) dX10_channel_21 (by decide) (by decide) rfl (by decide) ?_
  refine m_aload_n (pc' := 62) dX10_channel_61 rfl rfl ?_
  refine m_getR (pc' := 65) fa_X10_channel_10 dX10_channel_62 (by decide) rfl rfl rfl rfl ?_
  refine m_iload_n (pc' := 66) dX10_channel_65 rfl rfl ?_
  refine m_callV (pc' := 69) (A := [.int (nI c)]) (rest := []) (b := 1) cl_X10_channel_216 dX10_channel_66 rfl rfl (Nat.le_of_ble_eq_true rfl) ⟨by decide, by decide⟩ (by decide) rfl rfl rfl rfl ?_
  refine c_corrected (c := c) (r0 := r0) hC.1 (by omega) hO.1.2.2.2.1 h40 h41 ?_
  show mM G mX10_channel 69 [some (.ref 0), some (.int (nI c)), some (.int 6)] [.int (cor (a_s A) (a_s A (78 + c)) (a_s A 86) (a_s A 87))] S1 d (0, 0) Q
  refine m_iret dX10_channel_69 rfl rfl ⟨by decide, by decide⟩ ?_
  exact hQ _ fr.rfl hC
set_option maxHeartbeats 4000000 in
set_option maxRecDepth 100000 in
theorem k_chan7 {A : AS} {c : Nat} (hC : CR d A) (hO : OK A) (hc7 : c ≤ 7) (hQ : ∀ d', cfr d d' → CR d' A → Q (some (.int (vChannel A (nI c) 7))) S1 d') : mC G mX10_channel [.ref 0, .int (nI c), .int 7] S1 d Q := by
  have hb1 : bin (nI c) 0 7 = 1 := bin_nI (b := 7) (by omega)
  obtain ⟨n, hl⟩ := hO.l
  have e43 := hl.2.1
  have hn16 := hl.1
  have enn : nn (a_s A 43) = n := by rw [e43]; exact nn_nI (by omega)
  rw [show vChannel A (nI c) 7 = cen (a_s A) (nI c) n from by unfold vChannel; rw [if_neg (not_or.mpr ⟨by rw [hb1]; decide, by decide⟩), if_neg (by decide), if_neg (by decide), if_pos rfl, enn]] at hQ
  refine mC_of (by decide +kernel) ⟨_, rfl⟩ (Nat.le_of_ble_eq_true rfl) ?_
  show mM G mX10_channel 0 [some (.ref 0), some (.int (nI c)), some (.int 7)] [] S1 d (0, 0) Q
  refine m_iload_n (pc' := 1) dX10_channel_0 rfl rfl ?_
  refine m_callS (pc' := 4) (A := [.int (nI c)]) (rest := []) cl_X10_channel_51 dX10_channel_1 rfl rfl (Nat.le_of_ble_eq_true rfl) ⟨by decide, by decide⟩ rfl rfl ?_
  refine c_isCh ?_
  show mM G mX10_channel 4 [some (.ref 0), some (.int (nI c)), some (.int 7)] [.int (bin (nI c) 0 7)] S1 d (0, 0) Q
  rw [show (bin (nI c) 0 7) = 1 from hb1]
  refine m_if_eq (tgt := 17) (pc' := 7) dX10_channel_4 (by decide) rfl (fun h4 => absurd h4 (by decide)) (fun h4 => ?_)
  refine m_iload_n (pc' := 8) dX10_channel_7 rfl rfl ?_
  refine m_iconst (pc' := 9) (v := 0) dX10_channel_8 (by decide) rfl ?_
  refine m_bipush (pc' := 11) (v := 7) dX10_channel_9 (by decide) rfl ?_
  refine m_callS (pc' := 14) (A := [.int 7, .int 0, .int 7]) (rest := []) cl_X10_channel_81 dX10_channel_11 rfl rfl (Nat.le_of_ble_eq_true rfl) ⟨by decide, by decide⟩ rfl rfl ?_
  refine c_within ?_
  show mM G mX10_channel 14 [some (.ref 0), some (.int (nI c)), some (.int 7)] [.int (bin 7 0 7)] S1 d (0, 0) Q
  rw [show (bin 7 0 7) = 1 from rfl]
  refine m_if_ne (tgt := 20) (pc' := 17) dX10_channel_14 (by decide) rfl (fun h14 => ?_) (fun h14 => absurd h14 (by decide))
  refine m_iload_n (pc' := 21) dX10_channel_20 rfl rfl ?_
  refine m_tableIn (tgt := 70) (off := 49) dX10_channel_21 (by decide) (by decide) rfl (by decide) ?_
  refine m_aload_n (pc' := 71) dX10_channel_70 rfl rfl ?_
  refine m_getR (pc' := 74) fa_X10_channel_10 dX10_channel_71 (by decide) rfl rfl rfl rfl ?_
  refine m_getR (pc' := 77) fa_X10_channel_64 dX10_channel_74 (by decide) rfl rfl rfl rfl ?_
  refine m_iload_n (pc' := 78) dX10_channel_77 rfl rfl ?_
  refine m_callV (pc' := 81) (A := [.int (nI c)]) (rest := []) (b := 2) cl_X10_channel_219 dX10_channel_78 rfl rfl (Nat.le_of_ble_eq_true rfl) ⟨by decide, by decide⟩ (by decide) rfl rfl rfl rfl ?_
  refine c_entriesOf (s := a_s A) (by decide) hC.1.1 hl ?_
  show mM G mX10_channel 81 [some (.ref 0), some (.int (nI c)), some (.int 7)] [.int (cen (a_s A) (nI c) n)] S1 d (0, 0) Q
  refine m_iret dX10_channel_81 rfl rfl ⟨by decide, by decide⟩ ?_
  exact hQ _ fr.rfl hC
set_option maxHeartbeats 4000000 in
set_option maxRecDepth 100000 in
theorem k_chanD {A : AS} {c w : Nat} (hC : CR d A) (hc7 : c ≤ 7) (hw4 : w ≤ 4) (hQ : ∀ d', cfr d d' → CR d' A → Q (some (.int (vChannel A (nI c) (nI w)))) S1 d') : mC G mX10_channel [.ref 0, .int (nI c), .int (nI w)] S1 d Q := by
  have hb1 : bin (nI c) 0 7 = 1 := bin_nI (b := 7) (by omega)
  have hb2 : bin (nI w) 0 7 = 1 := bin_nI (b := 7) (by omega)
  have t5 : (nI w).toInt < 5 := by rw [nI_toInt (by omega)]; omega
  rw [show vChannel A (nI c) (nI w) = a_s A (5 * c + w) from by unfold vChannel; rw [if_neg (not_or.mpr ⟨by rw [hb1]; decide, by rw [hb2]; decide⟩), if_neg (fun h => absurd (congrArg Int32.toInt h) (by have : ((5 : Int32)).toInt = 5 := (by decide); omega)), if_neg (fun h => absurd (congrArg Int32.toInt h) (by have : ((6 : Int32)).toInt = 6 := (by decide); omega)), if_neg (fun h => absurd (congrArg Int32.toInt h) (by have : ((7 : Int32)).toInt = 7 := (by decide); omega)), nn_nI (by omega), nn_nI (by omega)]] at hQ
  refine mC_of (by decide +kernel) ⟨_, rfl⟩ (Nat.le_of_ble_eq_true rfl) ?_
  show mM G mX10_channel 0 [some (.ref 0), some (.int (nI c)), some (.int (nI w))] [] S1 d (0, 0) Q
  refine m_iload_n (pc' := 1) dX10_channel_0 rfl rfl ?_
  refine m_callS (pc' := 4) (A := [.int (nI c)]) (rest := []) cl_X10_channel_51 dX10_channel_1 rfl rfl (Nat.le_of_ble_eq_true rfl) ⟨by decide, by decide⟩ rfl rfl ?_
  refine c_isCh ?_
  show mM G mX10_channel 4 [some (.ref 0), some (.int (nI c)), some (.int (nI w))] [.int (bin (nI c) 0 7)] S1 d (0, 0) Q
  rw [show (bin (nI c) 0 7) = 1 from hb1]
  refine m_if_eq (tgt := 17) (pc' := 7) dX10_channel_4 (by decide) rfl (fun h4 => absurd h4 (by decide)) (fun h4 => ?_)
  refine m_iload_n (pc' := 8) dX10_channel_7 rfl rfl ?_
  refine m_iconst (pc' := 9) (v := 0) dX10_channel_8 (by decide) rfl ?_
  refine m_bipush (pc' := 11) (v := 7) dX10_channel_9 (by decide) rfl ?_
  refine m_callS (pc' := 14) (A := [.int (nI w), .int 0, .int 7]) (rest := []) cl_X10_channel_81 dX10_channel_11 rfl rfl (Nat.le_of_ble_eq_true rfl) ⟨by decide, by decide⟩ rfl rfl ?_
  refine c_within ?_
  show mM G mX10_channel 14 [some (.ref 0), some (.int (nI c)), some (.int (nI w))] [.int (bin (nI w) 0 7)] S1 d (0, 0) Q
  rw [show (bin (nI w) 0 7) = 1 from hb2]
  refine m_if_ne (tgt := 20) (pc' := 17) dX10_channel_14 (by decide) rfl (fun h14 => ?_) (fun h14 => absurd h14 (by decide))
  refine m_iload_n (pc' := 21) dX10_channel_20 rfl rfl ?_
  refine m_tableOut (tgt := 82) dX10_channel_21 (Or.inl t5) (by decide) ?_
  refine m_aload_n (pc' := 83) dX10_channel_82 rfl rfl ?_
  refine m_getR (pc' := 86) fa_X10_channel_10 dX10_channel_83 (by decide) rfl rfl rfl rfl ?_
  refine m_getR (pc' := 89) fa_X10_channel_64 dX10_channel_86 (by decide) rfl rfl rfl rfl ?_
  refine m_getR (pc' := 92) fa_X10_channel_67 dX10_channel_89 (by decide) rfl rfl rfl rfl ?_
  refine m_iload_n (pc' := 93) dX10_channel_92 rfl rfl ?_
  refine m_iload_n (pc' := 94) dX10_channel_93 rfl rfl ?_
  refine m_callV (pc' := 97) (A := [.int (nI c), .int (nI w)]) (rest := []) (b := 3) cl_X10_channel_71 dX10_channel_94 rfl rfl (Nat.le_of_ble_eq_true rfl) ⟨by decide, by decide⟩ (by decide) rfl rfl rfl rfl ?_
  refine c_atN (t := 3) (W := 5) (L := 40) (a := c) (b := w) (k := 5 * c + w) (isT_lit (by decide +kernel)) (by decide) (by omega) (by omega) ?_
  show mM G mX10_channel 97 [some (.ref 0), some (.int (nI c)), some (.int (nI w))] [.int (d.1 4 (5 * c + w))] S1 d (0, 0) Q
  rw [show (d.1 4 (5 * c + w)) = (a_s A (5 * c + w)) from hC.1.1.1 (5 * c + w) (by omega)]
  refine m_iret dX10_channel_97 rfl rfl ⟨by decide, by decide⟩ ?_
  exact hQ _ fr.rfl hC
set_option maxHeartbeats 4000000 in
set_option maxRecDepth 100000 in
theorem k_chanX {A : AS} {c w : Int32} (hC : CR d A) (hbad : bin c 0 7 = 0 ∨ bin w 0 7 = 0) (hQ : ∀ d', cfr d d' → CR d' A → Q (some (.int (vChannel A c w))) S1 d') : mC G mX10_channel [.ref 0, .int c, .int w] S1 d Q := by
  by_cases hb : bin c 0 7 = 0
  · skip
    rw [show vChannel A c w = eI from if_pos (Or.inl hb)] at hQ
    refine mC_of (by decide +kernel) ⟨_, rfl⟩ (Nat.le_of_ble_eq_true rfl) ?_
    show mM G mX10_channel 0 [some (.ref 0), some (.int c), some (.int w)] [] S1 d (0, 0) Q
    refine m_iload_n (pc' := 1) dX10_channel_0 rfl rfl ?_
    refine m_callS (pc' := 4) (A := [.int c]) (rest := []) cl_X10_channel_51 dX10_channel_1 rfl rfl (Nat.le_of_ble_eq_true rfl) ⟨by decide, by decide⟩ rfl rfl ?_
    refine c_isCh ?_
    show mM G mX10_channel 4 [some (.ref 0), some (.int c), some (.int w)] [.int (bin c 0 7)] S1 d (0, 0) Q
    rw [show (bin c 0 7) = 0 from hb]
    refine m_if_eq (tgt := 17) (pc' := 7) dX10_channel_4 (by decide) rfl (fun h4 => ?_) (fun h4 => absurd h4 (by decide))
    refine m_ldc (pc' := 19) dX10_channel_17 kc_X10_channel_59 rfl ?_
    refine m_iret dX10_channel_19 rfl rfl ⟨by decide, by decide⟩ ?_
    exact hQ _ fr.rfl hC
  have hb2 := hbad.resolve_left hb
  rw [show vChannel A c w = eI from if_pos (Or.inr hb2)] at hQ
  refine mC_of (by decide +kernel) ⟨_, rfl⟩ (Nat.le_of_ble_eq_true rfl) ?_
  show mM G mX10_channel 0 [some (.ref 0), some (.int c), some (.int w)] [] S1 d (0, 0) Q
  refine m_iload_n (pc' := 1) dX10_channel_0 rfl rfl ?_
  refine m_callS (pc' := 4) (A := [.int c]) (rest := []) cl_X10_channel_51 dX10_channel_1 rfl rfl (Nat.le_of_ble_eq_true rfl) ⟨by decide, by decide⟩ rfl rfl ?_
  refine c_isCh ?_
  show mM G mX10_channel 4 [some (.ref 0), some (.int c), some (.int w)] [.int (bin c 0 7)] S1 d (0, 0) Q
  rw [show (bin c 0 7) = 1 from bin_1 hb]
  refine m_if_eq (tgt := 17) (pc' := 7) dX10_channel_4 (by decide) rfl (fun h4 => absurd h4 (by decide)) (fun h4 => ?_)
  refine m_iload_n (pc' := 8) dX10_channel_7 rfl rfl ?_
  refine m_iconst (pc' := 9) (v := 0) dX10_channel_8 (by decide) rfl ?_
  refine m_bipush (pc' := 11) (v := 7) dX10_channel_9 (by decide) rfl ?_
  refine m_callS (pc' := 14) (A := [.int w, .int 0, .int 7]) (rest := []) cl_X10_channel_81 dX10_channel_11 rfl rfl (Nat.le_of_ble_eq_true rfl) ⟨by decide, by decide⟩ rfl rfl ?_
  refine c_within ?_
  show mM G mX10_channel 14 [some (.ref 0), some (.int c), some (.int w)] [.int (bin w 0 7)] S1 d (0, 0) Q
  rw [show (bin w 0 7) = 0 from hb2]
  refine m_if_ne (tgt := 20) (pc' := 17) dX10_channel_14 (by decide) rfl (fun h14 => absurd h14 (by decide)) (fun h14 => ?_)
  refine m_ldc (pc' := 19) dX10_channel_17 kc_X10_channel_59 rfl ?_
  refine m_iret dX10_channel_19 rfl rfl ⟨by decide, by decide⟩ ?_
  exact hQ _ fr.rfl hC
theorem k_channel {A : AS} {c w : Int32} (hC : CR d A) (hO : OK A) (hQ : ∀ d', cfr d d' → CR d' A → Q (some (.int (vChannel A c w))) S1 d') : mC G mX10_channel [.ref 0, .int c, .int w] S1 d Q := by
  by_cases h1 : bin c 0 7 = 0
  · exact k_chanX hC (Or.inl h1) hQ
  by_cases h2 : bin w 0 7 = 0
  · exact k_chanX hC (Or.inr h2) hQ
  obtain ⟨c, hc, rfl⟩ := bin_t (b := 7) (by decide) h1
  obtain ⟨w, hw, rfl⟩ := bin_t (b := 7) (by decide) h2
  rcases (show w ≤ 4 ∨ w = 5 ∨ w = 6 ∨ w = 7 by omega) with h | rfl | rfl | rfl
  · exact k_chanD hC hc h hQ
  · exact k_chan5 hC hO hc hQ
  · exact k_chan6 hC hO hc hQ
  · exact k_chan7 hC hO hc hQ
end CLS13
