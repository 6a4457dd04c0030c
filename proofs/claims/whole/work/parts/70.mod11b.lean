/-! THE CHECK'S OWN CALLS (7): orders, the best of them -/
section MOD11B
variable {G : GP} {Q : Option Value → Sh → Dt → Prop} {d : Dt}
theorem MM.ord {d d' : Dt} {s s' : SS} {T : Nat × SS × (Nat → UInt32) × UInt32 × SS × Nat} (h : MM d (s, T)) (hf : fr (fun a _ => a = 215 ∨ a = 220) nE d d') (e : d'.1 215 = s') : MM d' (s', T) :=
  ⟨e, h.2.1, (hf.1 214 5 (by show ¬ (_ ∨ _); omega)).trans h.2.2.1, (hf.row (by intro j; show ¬ (_ ∨ _); omega)).trans h.2.2.2.1, (hf.rowf (fun j => id)).trans h.2.2.2.2.1, (hf.2 214 6 id).trans h.2.2.2.2.2.1, (hf.row (by intro j; show ¬ (_ ∨ _); omega)).trans h.2.2.2.2.2.2.1, (hf.1 214 8 (by show ¬ (_ ∨ _); omega)).trans h.2.2.2.2.2.2.2⟩
theorem ord_mf {d d' : Dt} (h : fr (fun a _ => a = 215 ∨ a = 220) nE d d') : mfr d d' := h.mf (by intro a j; omega) (fun _ _ => False.elim)
theorem lt3_nI {r : Nat} (h : r ≤ 3) : nI r = 3 ∨ nI r < 3 := by
  rcases (show r = 0 ∨ r = 1 ∨ r = 2 ∨ r = 3 by omega) with rfl | rfl | rfl | rfl
  · exact Or.inr (by decide)
  · exact Or.inr (by decide)
  · exact Or.inr (by decide)
  · exact Or.inl rfl
theorem mvd_0 (τ : Nat → Nat) {n : Nat} (h : n ≤ 16) : 0 ≤ mvd τ n := by
  obtain ⟨k, h1, h2⟩ := mvd_nI τ n
  rw [h2]; exact nI_le (a := 0) (Nat.zero_le k) (by omega)
theorem cpr_arr {s b : SS} {τ : Nat → Nat} {n : Nat} (hn : n ≤ 16) : cpr (cpr s b) (arr s τ n) = s := by
  funext j; unfold cpr
  by_cases h : j < 408
  · rw [if_pos h, if_pos h]
  · rw [if_neg h]; exact (aR_arr s τ n).1 j (by omega)
set_option maxHeartbeats 4000000 in
set_option maxRecDepth 100000 in
theorem p_order {A : AS} {r : Int32} (hM : MM d A) (hO : OK A) (hQ : ∀ d', mfr d d' → MM d' (opOrder A r).2 → Q (some (.int (opOrder A r).1)) S1 d') : mC G mX11_order [.ref 214, .int r] S1 d Q := by
  by_cases h1 : bin r 0 3 = 0
  · skip
    rw [show opOrder A r = (eI, A) from if_pos h1] at hQ
    refine mC_of (by decide +kernel) ⟨_, rfl⟩ (Nat.le_of_ble_eq_true rfl) ?_
    show mM G mX11_order 0 [some (.ref 214), some (.int r)] [] S1 d (0, 0) Q
    refine m_aload_n (pc' := 1) dX11_order_0 rfl rfl ?_
    refine m_iconst (pc' := 2) (v := 0) dX11_order_1 (by decide) rfl ?_
    refine m_putI (pc' := 5) (ty := .int) fa_X11_order_29 dX11_order_2 (by decide +kernel) rfl rfl (by decide) rfl rfl rfl ?_
    refine m_iload_n (pc' := 6) dX11_order_5 rfl rfl ?_
    refine m_iconst (pc' := 7) (v := 0) dX11_order_6 (by decide) rfl ?_
    refine m_iconst (pc' := 8) (v := 3) dX11_order_7 (by decide) rfl ?_
    refine m_callS (pc' := 11) (A := [.int r, .int 0, .int 3]) (rest := []) cl_X11_order_40 dX11_order_8 rfl rfl (Nat.le_of_ble_eq_true rfl) ⟨by decide, by decide⟩ rfl rfl ?_
    refine c_in ?_
    show mM G mX11_order 11 [some (.ref 214), some (.int r)] [.int (bin r 0 3)] S1 (u2 d.1 214 0 0, d.2) (0, 0) Q
    rw [show (bin r 0 3) = 0 from h1]
    refine m_if_ne (tgt := 17) (pc' := 14) dX11_order_11 (by decide) rfl (fun h11 => absurd h11 (by decide)) (fun h11 => ?_)
    refine m_ldc (pc' := 16) dX11_order_14 kc_X11_order_111 rfl ?_
    refine m_iret dX11_order_16 rfl rfl ⟨by decide, by decide⟩ ?_
    exact hQ _ mfr.th hM.th
  have hM0 := hM.th
  have hs : d.1 215 = a_s A := hM.1
  obtain ⟨n, hl⟩ := hO.l
  have e43 := hl.2.1
  have hn16 := hl.1
  obtain ⟨t0, ht0, et76⟩ := hO.t
  have hc := hO.c
  have ett : nn (a_s A 76) = t0 := by rw [et76]; exact nn_nI (by omega)
  have enn : nn (a_s A 43) = n := by rw [e43]; exact nn_nI (by omega)
  obtain ⟨r, hr3, rfl⟩ := bin_t (b := 3) (by decide) h1
  rw [show opOrder A (nI r) = (mvd (tau (a_s A) (nI r) n) n, rec A (arr (a_s A) (tau (a_s A) (nI r) n) n) (a_h A)) from by unfold opOrder; rw [if_neg h1, enn]] at hQ
  refine mC_of (by decide +kernel) ⟨_, rfl⟩ (Nat.le_of_ble_eq_true rfl) ?_
  show mM G mX11_order 0 [some (.ref 214), some (.int (nI r))] [] S1 d (0, 0) Q
  refine m_aload_n (pc' := 1) dX11_order_0 rfl rfl ?_
  refine m_iconst (pc' := 2) (v := 0) dX11_order_1 (by decide) rfl ?_
  refine m_putI (pc' := 5) (ty := .int) fa_X11_order_29 dX11_order_2 (by decide +kernel) rfl rfl (by decide) rfl rfl rfl ?_
  refine m_iload_n (pc' := 6) dX11_order_5 rfl rfl ?_
  refine m_iconst (pc' := 7) (v := 0) dX11_order_6 (by decide) rfl ?_
  refine m_iconst (pc' := 8) (v := 3) dX11_order_7 (by decide) rfl ?_
  refine m_callS (pc' := 11) (A := [.int (nI r), .int 0, .int 3]) (rest := []) cl_X11_order_40 dX11_order_8 rfl rfl (Nat.le_of_ble_eq_true rfl) ⟨by decide, by decide⟩ rfl rfl ?_
  refine c_in ?_
  show mM G mX11_order 11 [some (.ref 214), some (.int (nI r))] [.int (bin (nI r) 0 3)] S1 (u2 d.1 214 0 0, d.2) (0, 0) Q
  rw [show (bin (nI r) 0 3) = 1 from bin_1 h1]
  refine m_if_ne (tgt := 17) (pc' := 14) dX11_order_11 (by decide) rfl (fun h11 => ?_) (fun h11 => absurd h11 (by decide))
  refine m_aload_n (pc' := 18) dX11_order_17 rfl rfl ?_
  refine m_callV (pc' := 21) (A := []) (rest := []) (b := 214) cl_X11_order_112 dX11_order_18 rfl rfl (Nat.le_of_ble_eq_true rfl) ⟨by decide, by decide⟩ (by decide) rfl rfl rfl rfl ?_
  refine c_mact (s := a_s A) (h := a_h A) hM0.1 hM0.2.1 hM0.2.2.1 hM0.2.2.2.1 hM0.2.2.2.2.1 hM0.2.2.2.2.2.1 (fun g g0 g1 g2 g3 => ?_)
  show mM G mX11_order 21 [some (.ref 214), some (.int (nI r))] [] S1 g (0, 0) Q
  have gM := hM0.act g0 g1 g2 g3
  have hs : g.1 215 = a_s A := gM.1
  refine m_aload_n (pc' := 22) dX11_order_21 rfl rfl ?_
  refine m_iload_n (pc' := 23) dX11_order_22 rfl rfl ?_
  refine m_callV (pc' := 26) (A := [.int (nI r)]) (rest := []) (b := 214) cl_X11_order_136 dX11_order_23 rfl rfl (Nat.le_of_ble_eq_true rfl) ⟨by decide, by decide⟩ (by decide) rfl rfl rfl rfl ?_
  refine c_morder (n := n) (s := a_s A) gM.1 hc hl (lt3_nI hr3) (fun f f0 f8 => ?_)
  show mM G mX11_order 26 [some (.ref 214), some (.int (nI r))] [.int (mvd (tau (a_s A) (nI r) n) n)] S1 f (0, 0) Q
  refine m_iret dX11_order_26 rfl rfl ⟨by decide, by decide⟩ ?_
  exact hQ f ((mfr.th.trans (act_mf g0)).trans (ord_mf f0)) (MM.ord (s := a_s A) gM f0 f8)
set_option maxHeartbeats 4000000 in
set_option maxRecDepth 100000 in
theorem p_bestRule {A : AS}  (hM : MM d A) (hO : OK A) (hQ : ∀ d', mfr d d' → MM d' A → Q (some (.int (vBest A))) S1 d') : mC G mX11_bestRule [.ref 214] S1 d Q := by
  have hs : d.1 215 = a_s A := hM.1
  obtain ⟨n, hl⟩ := hO.l
  have e43 := hl.2.1
  have hn16 := hl.1
  obtain ⟨t0, ht0, et76⟩ := hO.t
  have hc := hO.c
  have ett : nn (a_s A 76) = t0 := by rw [et76]; exact nn_nI (by omega)
  have enn : nn (a_s A 43) = n := by rw [e43]; exact nn_nI (by omega)
  rw [show vBest A = (bst (a_s A) t0 (a_h A) n 4).1 from by unfold vBest; rw [ett, enn]] at hQ
  have J : ∀ (n0 : Nat) (r : Nat) (d1 : Dt) (_ : r + n0 = 4) (_ : mfr d d1) (_ : MM d1 A), mM G mX11_bestRule 14 [some (.ref 214), some (.int ((bst (a_s A) t0 (a_h A) n r).1)), some (.int ((bst (a_s A) t0 (a_h A) n r).2)), some (.int (nI r)), none, none] [] S1 d1 (0, 0) Q := by
    intro n0
    induction n0 with
    | zero =>
      intro r d1 hk hd hM1
      refine m_iload_n (pc' := 15) dX11_bestRule_14 rfl rfl ?_
      refine m_iconst (pc' := 16) (v := 4) dX11_bestRule_15 (by decide) rfl ?_
      refine m_icmp_ge (tgt := 80) (pc' := 19) dX11_bestRule_16 (by decide) rfl (fun h16 => ?_) (fun h16 => (h16 (nI_le (a := 4) (by omega) (by omega))).elim)
      refine m_iload_n (pc' := 81) dX11_bestRule_80 rfl rfl ?_
      refine m_iret dX11_bestRule_81 rfl rfl ⟨by decide, by decide⟩ ?_
      obtain rfl : r = 4 := by omega
      exact hQ d1 hd hM1
    | succ n0 ih =>
      intro r d1 hk hd hM1
      refine m_iload_n (pc' := 15) dX11_bestRule_14 rfl rfl ?_
      refine m_iconst (pc' := 16) (v := 4) dX11_bestRule_15 (by decide) rfl ?_
      refine m_icmp_ge (tgt := 80) (pc' := 19) dX11_bestRule_16 (by decide) rfl (fun h16 => absurd h16 (nI_ge (b := 4) (by omega) (by omega))) (fun h16 => ?_)
      refine m_aload_n (pc' := 20) dX11_bestRule_19 rfl rfl ?_
      refine m_callV (pc' := 23) (A := []) (rest := []) (b := 214) cl_X11_bestRule_182 dX11_bestRule_20 rfl rfl (Nat.le_of_ble_eq_true rfl) ⟨by decide, by decide⟩ (by decide) rfl rfl rfl rfl ?_
      refine c_mhold (s := a_s A) (b := d1.1 216) hM1.1 rfl (fun e e0 e1 => ?_)
      show mM G mX11_bestRule 23 [some (.ref 214), some (.int ((bst (a_s A) t0 (a_h A) n r).1)), some (.int ((bst (a_s A) t0 (a_h A) n r).2)), some (.int (nI r)), none, none] [] S1 e (0, 0) Q
      have eM : MM e A := hM1.fr' e0 (by intro j; show ¬ (_ = _); omega) (by show ¬ (_ = _); omega) (by intro j; show ¬ (_ = _); omega) (fun j => id) id (by intro j; show ¬ (_ = _); omega) (by show ¬ (_ = _); omega)
      refine m_aload_n (pc' := 24) dX11_bestRule_23 rfl rfl ?_
      refine m_iload_n (pc' := 25) dX11_bestRule_24 rfl rfl ?_
      refine m_callV (pc' := 28) (A := [.int (nI r)]) (rest := []) (b := 214) cl_X11_bestRule_136 dX11_bestRule_25 rfl rfl (Nat.le_of_ble_eq_true rfl) ⟨by decide, by decide⟩ (by decide) rfl rfl rfl rfl ?_
      refine c_morder (n := n) (s := a_s A) eM.1 hc hl (lt3_nI (by omega)) (fun f f0 f8 => ?_)
      show mM G mX11_bestRule 28 [some (.ref 214), some (.int ((bst (a_s A) t0 (a_h A) n r).1)), some (.int ((bst (a_s A) t0 (a_h A) n r).2)), some (.int (nI r)), none, none] [.int (mvd (tau (a_s A) (nI r) n) n)] S1 f (0, 0) Q
      have fM : MM f ((arr (a_s A) (tau (a_s A) (nI r) n) n), A.2) := MM.ord (s := a_s A) (T := A.2) eM f0 f8
      have hA := aR_arr (a_s A) (tau (a_s A) (nI r) n) n
      refine m_istore (pc' := 30) dX11_bestRule_28 (by decide) rfl rfl ?_
      refine m_iload (pc' := 32) dX11_bestRule_30 rfl rfl ?_
      refine m_if_ge (tgt := 39) (pc' := 35) dX11_bestRule_32 (by decide) rfl (fun h32 => ?_) (fun h32 => (h32 (mvd_0 _ hn16)).elim)
      refine m_aload_n (pc' := 40) dX11_bestRule_39 rfl rfl ?_
      refine m_callV (pc' := 43) (A := []) (rest := []) (b := 214) cl_X11_bestRule_208 dX11_bestRule_40 rfl rfl (Nat.le_of_ble_eq_true rfl) ⟨by decide, by decide⟩ (by decide) rfl rfl rfl rfl ?_
      refine c_mcarries (n := n) (t0 := t0) (h0 := a_h A) (s := (arr (a_s A) (tau (a_s A) (nI r) n) n)) f8 (okC_ar hA hc) (okL_ar hA hl tau_lt) ((hA.1 76 (by omega)).trans et76) (by omega) fM.2.2.2.2.2.1 (fun k k0 => ?_)
      show mM G mX11_bestRule 43 [some (.ref 214), some (.int ((bst (a_s A) t0 (a_h A) n r).1)), some (.int ((bst (a_s A) t0 (a_h A) n r).2)), some (.int (nI r)), some (.int (mvd (tau (a_s A) (nI r) n) n)), none] [.int (esm (arr (a_s A) (tau (a_s A) (nI r) n) n) t0 (a_h A) n)] S1 k (0, 0) Q
      refine m_istore (pc' := 45) dX11_bestRule_43 (by decide) rfl rfl ?_
      refine m_aload_n (pc' := 46) dX11_bestRule_45 rfl rfl ?_
      refine m_callV (pc' := 49) (A := []) (rest := []) (b := 214) cl_X11_bestRule_211 dX11_bestRule_46 rfl rfl (Nat.le_of_ble_eq_true rfl) ⟨by decide, by decide⟩ (by decide) rfl rfl rfl rfl ?_
      refine c_mrelease (s := cpr (a_s A) (d1.1 216)) (b := (arr (a_s A) (tau (a_s A) (nI r) n) n)) ((k0.row (by intro j; omega)).trans ((f0.row (by intro j; show ¬ (_ ∨ _); omega)).trans e1)) (k0.s f8) (fun q q0 q1 => ?_)
      show mM G mX11_bestRule 49 [some (.ref 214), some (.int ((bst (a_s A) t0 (a_h A) n r).1)), some (.int ((bst (a_s A) t0 (a_h A) n r).2)), some (.int (nI r)), some (.int (mvd (tau (a_s A) (nI r) n) n)), some (.int (esm (arr (a_s A) (tau (a_s A) (nI r) n) n) t0 (a_h A) n))] [] S1 q (0, 0) Q
      have qM : MM q A := (fM.sim k0).row q0 (q1.trans (cpr_arr hn16))
      have qd : mfr d q := ((((hd.trans (e0.mf (by intro a j h; have : a = 216 := h; omega) (fun _ _ => False.elim))).trans (ord_mf f0)).trans (sim_mf k0)).trans (row_mf q0))
      refine m_iload (pc' := 51) dX11_bestRule_49 rfl rfl ?_
      refine m_iload_n (pc' := 52) dX11_bestRule_51 rfl rfl ?_
      refine m_icmp_ge (tgt := 59) (pc' := 55) dX11_bestRule_52 (by decide) rfl (fun h52 => ?_) (fun h52 => ?_)
      · skip
        refine m_iload_n (pc' := 60) dX11_bestRule_59 rfl rfl ?_
        refine m_istore_n (pc' := 61) dX11_bestRule_60 (by decide) rfl rfl ?_
        refine m_iload (pc' := 63) dX11_bestRule_61 rfl rfl ?_
        refine m_iload_n (pc' := 64) dX11_bestRule_63 rfl rfl ?_
        refine m_icmp_ge (tgt := 72) (pc' := 67) dX11_bestRule_64 (by decide) rfl (fun h64 => ?_) (fun h64 => ?_)
        · skip
          refine m_iload_n (pc' := 73) dX11_bestRule_72 rfl rfl ?_
          refine m_istore_n (pc' := 74) dX11_bestRule_73 (by decide) rfl rfl ?_
          refine m_iinc (pc' := 77) dX11_bestRule_74 rfl (by decide) (v := nI (r + 1)) (nI_1 r) rfl rfl ?_
          refine m_goto (tgt := 14) dX11_bestRule_77 (by decide) ?_
          refine m_drop 4 (lo' := [some (.ref 214), some (.int ((bst (a_s A) t0 (a_h A) n r).1)), some (.int ((bst (a_s A) t0 (a_h A) n r).2)), some (.int (nI (r + 1))), none, some (.int (esm (arr (a_s A) (tau (a_s A) (nI r) n) n) t0 (a_h A) n))]) rfl ?_
          refine m_drop 5 (lo' := [some (.ref 214), some (.int ((bst (a_s A) t0 (a_h A) n r).1)), some (.int ((bst (a_s A) t0 (a_h A) n r).2)), some (.int (nI (r + 1))), none, none]) rfl ?_
          have eb : (bst (a_s A) t0 (a_h A) n (r + 1)) = (bst (a_s A) t0 (a_h A) n r) := if_neg (Int32.not_lt.mpr h52)
          have e9 := ih (r + 1) q (by omega) qd qM
          rw [eb] at e9
          exact e9
        · skip
          refine m_iload (pc' := 69) dX11_bestRule_67 rfl rfl ?_
          refine m_goto (tgt := 73) dX11_bestRule_69 (by decide) ?_
          refine m_istore_n (pc' := 74) dX11_bestRule_73 (by decide) rfl rfl ?_
          refine m_iinc (pc' := 77) dX11_bestRule_74 rfl (by decide) (v := nI (r + 1)) (nI_1 r) rfl rfl ?_
          refine m_goto (tgt := 14) dX11_bestRule_77 (by decide) ?_
          refine m_drop 4 (lo' := [some (.ref 214), some (.int ((bst (a_s A) t0 (a_h A) n r).1)), some (.int (esm (arr (a_s A) (tau (a_s A) (nI r) n) n) t0 (a_h A) n)), some (.int (nI (r + 1))), none, some (.int (esm (arr (a_s A) (tau (a_s A) (nI r) n) n) t0 (a_h A) n))]) rfl ?_
          refine m_drop 5 (lo' := [some (.ref 214), some (.int ((bst (a_s A) t0 (a_h A) n r).1)), some (.int (esm (arr (a_s A) (tau (a_s A) (nI r) n) n) t0 (a_h A) n)), some (.int (nI (r + 1))), none, none]) rfl ?_
          exact absurd h52 h64
      · skip
        refine m_iload_n (pc' := 56) dX11_bestRule_55 rfl rfl ?_
        refine m_goto (tgt := 60) dX11_bestRule_56 (by decide) ?_
        refine m_istore_n (pc' := 61) dX11_bestRule_60 (by decide) rfl rfl ?_
        refine m_iload (pc' := 63) dX11_bestRule_61 rfl rfl ?_
        refine m_iload_n (pc' := 64) dX11_bestRule_63 rfl rfl ?_
        refine m_icmp_ge (tgt := 72) (pc' := 67) dX11_bestRule_64 (by decide) rfl (fun h64 => ?_) (fun h64 => ?_)
        · skip
          refine m_iload_n (pc' := 73) dX11_bestRule_72 rfl rfl ?_
          refine m_istore_n (pc' := 74) dX11_bestRule_73 (by decide) rfl rfl ?_
          refine m_iinc (pc' := 77) dX11_bestRule_74 rfl (by decide) (v := nI (r + 1)) (nI_1 r) rfl rfl ?_
          refine m_goto (tgt := 14) dX11_bestRule_77 (by decide) ?_
          refine m_drop 4 (lo' := [some (.ref 214), some (.int (nI r)), some (.int ((bst (a_s A) t0 (a_h A) n r).2)), some (.int (nI (r + 1))), none, some (.int (esm (arr (a_s A) (tau (a_s A) (nI r) n) n) t0 (a_h A) n))]) rfl ?_
          refine m_drop 5 (lo' := [some (.ref 214), some (.int (nI r)), some (.int ((bst (a_s A) t0 (a_h A) n r).2)), some (.int (nI (r + 1))), none, none]) rfl ?_
          exact absurd h64 h52
        · skip
          refine m_iload (pc' := 69) dX11_bestRule_67 rfl rfl ?_
          refine m_goto (tgt := 73) dX11_bestRule_69 (by decide) ?_
          refine m_istore_n (pc' := 74) dX11_bestRule_73 (by decide) rfl rfl ?_
          refine m_iinc (pc' := 77) dX11_bestRule_74 rfl (by decide) (v := nI (r + 1)) (nI_1 r) rfl rfl ?_
          refine m_goto (tgt := 14) dX11_bestRule_77 (by decide) ?_
          refine m_drop 4 (lo' := [some (.ref 214), some (.int (nI r)), some (.int (esm (arr (a_s A) (tau (a_s A) (nI r) n) n) t0 (a_h A) n)), some (.int (nI (r + 1))), none, some (.int (esm (arr (a_s A) (tau (a_s A) (nI r) n) n) t0 (a_h A) n))]) rfl ?_
          refine m_drop 5 (lo' := [some (.ref 214), some (.int (nI r)), some (.int (esm (arr (a_s A) (tau (a_s A) (nI r) n) n) t0 (a_h A) n)), some (.int (nI (r + 1))), none, none]) rfl ?_
          have eb : (bst (a_s A) t0 (a_h A) n (r + 1)) = (nI r, esm (arr (a_s A) (tau (a_s A) (nI r) n) n) t0 (a_h A) n) := if_pos (Int32.not_le.mp h52)
          have e9 := ih (r + 1) q (by omega) qd qM
          rw [eb] at e9
          exact e9
  refine mC_of (by decide +kernel) ⟨_, rfl⟩ (Nat.le_of_ble_eq_true rfl) ?_
  show mM G mX11_bestRule 0 [some (.ref 214), none, none, none, none, none] [] S1 d (0, 0) Q
  refine m_aload_n (pc' := 1) dX11_bestRule_0 rfl rfl ?_
  refine m_iconst (pc' := 2) (v := 0) dX11_bestRule_1 (by decide) rfl ?_
  refine m_putI (pc' := 5) (ty := .int) fa_X11_bestRule_29 dX11_bestRule_2 (by decide +kernel) rfl rfl (by decide) rfl rfl rfl ?_
  refine m_iconst (pc' := 6) (v := (-1)) dX11_bestRule_5 (by decide) rfl ?_
  refine m_istore_n (pc' := 7) dX11_bestRule_6 (by decide) rfl rfl ?_
  refine m_aload_n (pc' := 8) dX11_bestRule_7 rfl rfl ?_
  refine m_callV (pc' := 11) (A := []) (rest := []) (b := 214) cl_X11_bestRule_208 dX11_bestRule_8 rfl rfl (Nat.le_of_ble_eq_true rfl) ⟨by decide, by decide⟩ (by decide) rfl rfl rfl rfl ?_
  refine c_mcarries (n := n) (t0 := t0) (h0 := a_h A) (s := a_s A) hs hc hl et76 (by omega) hM.2.2.2.2.2.1 (fun b b0 => ?_)
  show mM G mX11_bestRule 11 [some (.ref 214), some (.int (-1)), none, none, none, none] [.int (esm (a_s A) t0 (a_h A) n)] S1 b (0, 0) Q
  refine m_istore_n (pc' := 12) dX11_bestRule_11 (by decide) rfl rfl ?_
  refine m_iconst (pc' := 13) (v := 0) dX11_bestRule_12 (by decide) rfl ?_
  refine m_istore_n (pc' := 14) dX11_bestRule_13 (by decide) rfl rfl ?_
  exact J 4 0 b (by omega) (mfr.th.trans (sim_mf b0)) (hM.th.sim b0)
end MOD11B
