/-! THE CHECK'S OWN CALLS (10): a text loaded -/
section MOD14
variable {G : GP} {Q : Option Value → Sh → Dt → Prop} {d : Dt}
abbrev exE (a _j : Nat) : Prop := a = 215 ∨ a = 216
abbrev ldF (a j : Nat) : Prop := a = 215 ∨ a = 216 ∨ (a = 214 ∧ (j = 15 ∨ j = 16))
theorem MM.ldf {d d' : Dt} {s s' : SS} {T : Nat × SS × (Nat → UInt32) × UInt32 × SS × Nat} (h : MM d (s, T)) (hf : fr ldF nE d d') (e : d'.1 215 = s') : MM d' (s', T) :=
  ⟨e, h.2.1, (hf.1 214 5 (by show ¬ (_ ∨ _ ∨ _); omega)).trans h.2.2.1, (hf.row (by intro j; show ¬ (_ ∨ _ ∨ _); omega)).trans h.2.2.2.1, (hf.rowf (fun j => id)).trans h.2.2.2.2.1, (hf.2 214 6 id).trans h.2.2.2.2.2.1, (hf.row (by intro j; show ¬ (_ ∨ _ ∨ _); omega)).trans h.2.2.2.2.2.2.1, (hf.1 214 8 (by show ¬ (_ ∨ _ ∨ _); omega)).trans h.2.2.2.2.2.2.2⟩
theorem ldF_mf {d d' : Dt} (h : fr ldF nE d d') : mfr d d' := h.mf (by intro a j; omega) (fun _ _ => False.elim)
theorem ld_F {d d' : Dt} (h : fr ldE nE d d') : fr ldF nE d d' := h.mono (by intro a j; omega) (fun _ _ => id)
theorem ex_F {d d' : Dt} (h : fr exE nE d d') : fr ldF nE d d' := h.mono (by intro a j; omega) (fun _ _ => id)
theorem cpr_1 {a b s : SS} (h : ∀ j, 76 ≤ j → s j = a j) : cpr (cpr a b) s = a := by
  funext j; unfold cpr
  by_cases c : j < 408
  · rw [if_pos c, if_pos c]
  · rw [if_neg c]; exact h j (by omega)
theorem cpr_2 {a b s : SS} (h : ∀ j, 76 ≤ j → s j = a j) : cpr (cpr s b) a = s := by
  funext j; unfold cpr
  by_cases c : j < 408
  · rw [if_pos c, if_pos c]
  · rw [if_neg c]; exact (h j (by omega)).symm
theorem OK.x {A : AS} (h : OK A) {j : Nat} (hj : j < a_n A) : ∃ c : Nat, 1 ≤ c ∧ c ≤ 255 ∧ a_t A j = nI c := h.2.2.2.2 j hj
theorem OK.m {A : AS} (h : OK A) : okm (a_s A) := by obtain ⟨n, hn⟩ := h.l; exact ⟨n, hn.1, hn.2.1⟩
set_option maxHeartbeats 4000000 in
set_option maxRecDepth 100000 in
theorem p_load0 {A : AS} {d0 : Dt} (hO : OK A) (hd0 : mfr d d0) (hM0 : MM d0 A) (h9 : d0.1 216 = (cpr (a_s A) (d.1 216))) (hQ : ∀ d', mfr d d' → MM d' (opLoad A).2 → Q (some (.int (opLoad A).1)) S1 d') (hT0 : TX (a_t A) (a_n A) 0 (a_s A) d0) : mM G mX11_load 18 [some (.ref 214), some (.int (nI 0)), some (.int 1)] [] S1 d0 (0, 0) Q := by
  have hn := hO.2.2.2.1
  have J40n : ∀ (p : Nat) (s : SS) (k : Nat) (d1 : Dt) (_ : fr ldE nE d0 d1) (_ : TX (a_t A) (a_n A) p s d1) (_ : ∀ j, 76 ≤ j → s j = a_s A j) (j : Nat) (s2 : SS) (_ : pTxt A = (0, j, p, s2)), mM G mX11_load 40 [some (.ref 214), some (.int (nI k)), some (.int 0)] [] S1 d1 (0, 0) Q := by
    intro p s k d1 hf hT hp j s2 hX
    refine m_aload_n (pc' := 41) dX11_load_40 rfl rfl ?_
    refine m_callV (pc' := 44) (A := []) (rest := []) (b := 214) cl_X11_load_189 dX11_load_41 rfl rfl (Nat.le_of_ble_eq_true rfl) ⟨by decide, by decide⟩ (by decide) rfl rfl rfl rfl ?_
    refine c_mexchange (s := s) (b := (cpr (a_s A) (d.1 216))) hT.2.2.2 ((hf.row (by intro j; show ¬ (_ ∨ _); omega)).trans h9) (fun x x0 x1 x2 => ?_)
    show mM G mX11_load 44 [some (.ref 214), some (.int (nI k)), some (.int 0)] [] S1 x (0, 0) Q
    have xM : MM x A := hM0.ldf ((ld_F hf).trans (ex_F x0)) (x1.trans (cpr_1 hp))
    have xd : mfr d x := hd0.trans (ldF_mf ((ld_F hf).trans (ex_F x0)))
    refine m_iload_n (pc' := 45) dX11_load_44 rfl rfl ?_
    refine m_if_ne (tgt := 56) (pc' := 48) dX11_load_45 (by decide) rfl (fun h45 => absurd h45 (by decide)) (fun h45 => ?_)
    refine m_ldc (pc' := 50) dX11_load_48 kc_X11_load_192 rfl ?_
    refine m_aload_n (pc' := 51) dX11_load_50 rfl rfl ?_
    refine m_getI (pc' := 54) fa_X11_load_150 dX11_load_51 (by decide) rfl rfl rfl ?_
    rw [show (x.1 214 15) = (nI p) from (x0.1 214 15 (by show ¬ (_ ∨ _); omega)).trans hT.2.2.1]
    refine m_isub (pc' := 55) dX11_load_54 rfl ?_
    refine m_iret dX11_load_55 rfl rfl ⟨by decide, by decide⟩ ?_
    rw [show opLoad A = (-20000000 - nI p, A) by unfold opLoad; rw [hX]; rfl] at hQ
    exact hQ x xd xM
  have J40y : ∀ (p : Nat) (s : SS) (k : Nat) (d1 : Dt) (_ : fr ldE nE d0 d1) (_ : TX (a_t A) (a_n A) p s d1) (_ : ∀ j, 76 ≤ j → s j = a_s A j) (_ : pTxt A = (1, k, p, s)), mM G mX11_load 40 [some (.ref 214), some (.int (nI k)), some (.int 1)] [] S1 d1 (0, 0) Q := by
    intro p s k d1 hf hT hp hX
    refine m_aload_n (pc' := 41) dX11_load_40 rfl rfl ?_
    refine m_callV (pc' := 44) (A := []) (rest := []) (b := 214) cl_X11_load_189 dX11_load_41 rfl rfl (Nat.le_of_ble_eq_true rfl) ⟨by decide, by decide⟩ (by decide) rfl rfl rfl rfl ?_
    refine c_mexchange (s := s) (b := (cpr (a_s A) (d.1 216))) hT.2.2.2 ((hf.row (by intro j; show ¬ (_ ∨ _); omega)).trans h9) (fun x x0 x1 x2 => ?_)
    show mM G mX11_load 44 [some (.ref 214), some (.int (nI k)), some (.int 1)] [] S1 x (0, 0) Q
    have xM : MM x A := hM0.ldf ((ld_F hf).trans (ex_F x0)) (x1.trans (cpr_1 hp))
    have xd : mfr d x := hd0.trans (ldF_mf ((ld_F hf).trans (ex_F x0)))
    refine m_iload_n (pc' := 45) dX11_load_44 rfl rfl ?_
    refine m_if_ne (tgt := 56) (pc' := 48) dX11_load_45 (by decide) rfl (fun h45 => ?_) (fun h45 => absurd h45 (by decide))
    refine m_aload_n (pc' := 57) dX11_load_56 rfl rfl ?_
    refine m_callV (pc' := 60) (A := []) (rest := []) (b := 214) cl_X11_load_112 dX11_load_57 rfl rfl (Nat.le_of_ble_eq_true rfl) ⟨by decide, by decide⟩ (by decide) rfl rfl rfl rfl ?_
    refine c_mact (s := a_s A) (h := a_h A) xM.1 xM.2.1 xM.2.2.1 xM.2.2.2.1 xM.2.2.2.2.1 xM.2.2.2.2.2.1 (fun g g0 g1 g2 g3 => ?_)
    show mM G mX11_load 60 [some (.ref 214), some (.int (nI k)), some (.int 1)] [] S1 g (0, 0) Q
    have gM := xM.act g0 g1 g2 g3
    have hs : g.1 215 = a_s A := gM.1
    refine m_aload_n (pc' := 61) dX11_load_60 rfl rfl ?_
    refine m_callV (pc' := 64) (A := []) (rest := []) (b := 214) cl_X11_load_189 dX11_load_61 rfl rfl (Nat.le_of_ble_eq_true rfl) ⟨by decide, by decide⟩ (by decide) rfl rfl rfl rfl ?_
    refine c_mexchange (s := a_s A) (b := (cpr s (cpr (a_s A) (d.1 216)))) gM.1 ((g0.row (by intro j; show ¬ (_ ∨ _); omega)).trans x2) (fun y y0 y1 y2 => ?_)
    show mM G mX11_load 64 [some (.ref 214), some (.int (nI k)), some (.int 1)] [] S1 y (0, 0) Q
    refine m_aload_n (pc' := 65) dX11_load_64 rfl rfl ?_
    refine m_iconst (pc' := 66) (v := 0) dX11_load_65 (by decide) rfl ?_
    refine m_putI (pc' := 69) (ty := .int) fa_X11_load_147 dX11_load_66 (by decide +kernel) rfl rfl (by decide) rfl rfl rfl ?_
    refine m_iload_n (pc' := 70) dX11_load_69 rfl rfl ?_
    refine m_iret dX11_load_70 rfl rfl ⟨by decide, by decide⟩ ?_
    have yM : MM y (rec A s (a_h A)) := MM.ldf (s := a_s A) gM (ex_F y0) (y1.trans (cpr_2 hp))
    rw [show opLoad A = (nI k, (s, hm (a_m A) + 1, hsv2 (a_m A) (a_v A) (a_s A), hsc2 (a_m A) (a_c A) (a_h A), a_h A, a_t A, 0)) by unfold opLoad; rw [hX]; rfl] at hQ
    exact hQ _ (fr.i ((xd.trans (act_mf g0)).trans (ldF_mf (ex_F y0))) _ (show 214 ≤ 214 by decide)) (MM.len (n := a_n A) yM rfl)
  have J18 : ∀ (f : Nat) (p : Nat) (s : SS) (k : Nat) (d1 : Dt) (_ : a_n A - p ≤ f) (_ : p ≤ a_n A) (_ : okm s) (_ : fr ldE nE d0 d1) (_ : TX (a_t A) (a_n A) p s d1) (_ : ∀ j, 76 ≤ j → s j = a_s A j) (_ : pTxt A = ((pAll (a_t A) (a_n A) f p s).1, k + (pAll (a_t A) (a_n A) f p s).2.1, (pAll (a_t A) (a_n A) f p s).2.2)), mM G mX11_load 18 [some (.ref 214), some (.int (nI k)), some (.int 1)] [] S1 d1 (0, 0) Q := by
    intro f
    induction f with
    | zero =>
      intro p s k d1 hk hpn hm hf hT hp hX
      have hq : ¬ (skp (a_t A) (a_n A) p) < a_n A := by have := skp_le' (t := a_t A) hpn; omega
      refine m_iload_n (pc' := 19) dX11_load_18 rfl rfl ?_
      refine m_if_eq (tgt := 40) (pc' := 22) dX11_load_19 (by decide) rfl (fun h19 => absurd h19 (by decide)) (fun h19 => ?_)
      refine m_aload_n (pc' := 23) dX11_load_22 rfl rfl ?_
      refine m_callV (pc' := 26) (A := []) (rest := []) (b := 214) cl_X11_load_153 dX11_load_23 rfl rfl (Nat.le_of_ble_eq_true rfl) ⟨by decide, by decide⟩ (by decide) rfl rfl rfl rfl ?_
      refine c_mhere (p := p) (P := (skp (a_t A) (a_n A) p)) (t := a_t A) (n := a_n A) (s := s) hT hpn hn rfl (fun e e0 eT => ?_)
      show mM G mX11_load 26 [some (.ref 214), some (.int (nI k)), some (.int 1)] [.int (sgn (a_t A) (a_n A) (skp (a_t A) (a_n A) p))] S1 e (0, 0) Q
      rw [show (sgn (a_t A) (a_n A) (skp (a_t A) (a_n A) p)) = (-1) from if_neg hq]
      refine m_if_lt (tgt := 40) (pc' := 29) dX11_load_26 (by decide) rfl (fun h26 => ?_) (fun h26 => absurd h26 (by decide))
      exact J40y (skp (a_t A) (a_n A) p) s k e (hf.trans e0) eT hp (by rw [hX, pAll_end hq]; rfl)
    | succ f ih =>
      intro p s k d1 hk hpn hm hf hT hp hX
      have hqp := skp_le' (t := a_t A) hpn
      by_cases hq : (skp (a_t A) (a_n A) p) < a_n A
      · skip
        obtain ⟨c, c1, c2, c3⟩ := hO.x hq
        refine m_iload_n (pc' := 19) dX11_load_18 rfl rfl ?_
        refine m_if_eq (tgt := 40) (pc' := 22) dX11_load_19 (by decide) rfl (fun h19 => absurd h19 (by decide)) (fun h19 => ?_)
        refine m_aload_n (pc' := 23) dX11_load_22 rfl rfl ?_
        refine m_callV (pc' := 26) (A := []) (rest := []) (b := 214) cl_X11_load_153 dX11_load_23 rfl rfl (Nat.le_of_ble_eq_true rfl) ⟨by decide, by decide⟩ (by decide) rfl rfl rfl rfl ?_
        refine c_mhere (p := p) (P := (skp (a_t A) (a_n A) p)) (t := a_t A) (n := a_n A) (s := s) hT hpn hn rfl (fun e e0 eT => ?_)
        show mM G mX11_load 26 [some (.ref 214), some (.int (nI k)), some (.int 1)] [.int (sgn (a_t A) (a_n A) (skp (a_t A) (a_n A) p))] S1 e (0, 0) Q
        rw [show (sgn (a_t A) (a_n A) (skp (a_t A) (a_n A) p)) = (nI c) from (if_pos hq : sgn (a_t A) (a_n A) (skp (a_t A) (a_n A) p) = a_t A (skp (a_t A) (a_n A) p)).trans c3]
        refine m_if_lt (tgt := 40) (pc' := 29) dX11_load_26 (by decide) rfl (fun h26 => absurd h26 (Int32.not_lt.mpr (nI_le (a := 0) (Nat.zero_le c) (by omega)))) (fun h26 => ?_)
        refine m_aload_n (pc' := 30) dX11_load_29 rfl rfl ?_
        refine m_callV (pc' := 33) (A := []) (rest := []) (b := 214) cl_X11_load_185 dX11_load_30 rfl rfl (Nat.le_of_ble_eq_true rfl) ⟨by decide, by decide⟩ (by decide) rfl rfl rfl rfl ?_
        refine c_rdItem (p := (skp (a_t A) (a_n A) p)) (t := a_t A) (n := a_n A) (s := s) eT (Nat.le_of_lt hq) hn hm (fun z z0 zT => ?_)
        show mM G mX11_load 33 [some (.ref 214), some (.int (nI k)), some (.int 1)] [.int ((pItem (a_t A) (a_n A) (skp (a_t A) (a_n A) p) s).1)] S1 z (0, 0) Q
        refine m_istore_n (pc' := 34) dX11_load_33 (by decide) rfl rfl ?_
        refine m_iinc (pc' := 37) dX11_load_34 rfl (by decide) (v := nI (k + 1)) (nI_1 k) rfl rfl ?_
        refine m_goto (tgt := 18) dX11_load_37 (by decide) ?_
        have hG := pItem_G (t := a_t A) (n := a_n A) (p := (skp (a_t A) (a_n A) p)) (s := s) (Nat.le_of_lt hq) hm
        have hX2 : pAll (a_t A) (a_n A) (f + 1) p s = if (pItem (a_t A) (a_n A) (skp (a_t A) (a_n A) p) s).1 = 0 then (0, 1, (pItem (a_t A) (a_n A) (skp (a_t A) (a_n A) p) s).2) else ((pAll (a_t A) (a_n A) f (pItem (a_t A) (a_n A) (skp (a_t A) (a_n A) p) s).2.1 (pItem (a_t A) (a_n A) (skp (a_t A) (a_n A) p) s).2.2).1, (pAll (a_t A) (a_n A) f (pItem (a_t A) (a_n A) (skp (a_t A) (a_n A) p) s).2.1 (pItem (a_t A) (a_n A) (skp (a_t A) (a_n A) p) s).2.2).2.1 + 1, (pAll (a_t A) (a_n A) f (pItem (a_t A) (a_n A) (skp (a_t A) (a_n A) p) s).2.1 (pItem (a_t A) (a_n A) (skp (a_t A) (a_n A) p) s).2.2).2.2) := if_pos hq
        by_cases hr : (pItem (a_t A) (a_n A) (skp (a_t A) (a_n A) p) s).1 = 0
        · skip
          rw [hr]
          rw [if_pos hr] at hX2
          refine m_iload_n (pc' := 19) dX11_load_18 rfl rfl ?_
          refine m_if_eq (tgt := 40) (pc' := 22) dX11_load_19 (by decide) rfl (fun h19 => ?_) (fun h19 => absurd h19 (by decide))
          exact J40n (pItem (a_t A) (a_n A) (skp (a_t A) (a_n A) p) s).2.1 (pItem (a_t A) (a_n A) (skp (a_t A) (a_n A) p) s).2.2 (k + 1) z ((hf.trans e0).trans z0) zT (fun j hj => (hG.2.2.1 j hj).trans (hp j hj)) (k + 1) (pItem (a_t A) (a_n A) (skp (a_t A) (a_n A) p) s).2.2 (by rw [hX, hX2])
        rw [if_neg hr] at hX2
        obtain ⟨h1, h2⟩ := hG.2.1.resolve_left hr
        rw [h1]
        exact ih (pItem (a_t A) (a_n A) (skp (a_t A) (a_n A) p) s).2.1 (pItem (a_t A) (a_n A) (skp (a_t A) (a_n A) p) s).2.2 (k + 1) z (by omega) hG.1 hG.2.2.2 ((hf.trans e0).trans z0) zT (fun j hj => (hG.2.2.1 j hj).trans (hp j hj)) (by rw [hX, hX2]; show (_, k + (_ + 1), _) = _; rw [show ∀ x : Nat, k + (x + 1) = k + 1 + x from fun x => by omega])
      refine m_iload_n (pc' := 19) dX11_load_18 rfl rfl ?_
      refine m_if_eq (tgt := 40) (pc' := 22) dX11_load_19 (by decide) rfl (fun h19 => absurd h19 (by decide)) (fun h19 => ?_)
      refine m_aload_n (pc' := 23) dX11_load_22 rfl rfl ?_
      refine m_callV (pc' := 26) (A := []) (rest := []) (b := 214) cl_X11_load_153 dX11_load_23 rfl rfl (Nat.le_of_ble_eq_true rfl) ⟨by decide, by decide⟩ (by decide) rfl rfl rfl rfl ?_
      refine c_mhere (p := p) (P := (skp (a_t A) (a_n A) p)) (t := a_t A) (n := a_n A) (s := s) hT hpn hn rfl (fun e e0 eT => ?_)
      show mM G mX11_load 26 [some (.ref 214), some (.int (nI k)), some (.int 1)] [.int (sgn (a_t A) (a_n A) (skp (a_t A) (a_n A) p))] S1 e (0, 0) Q
      rw [show (sgn (a_t A) (a_n A) (skp (a_t A) (a_n A) p)) = (-1) from if_neg hq]
      refine m_if_lt (tgt := 40) (pc' := 29) dX11_load_26 (by decide) rfl (fun h26 => ?_) (fun h26 => absurd h26 (by decide))
      exact J40y (skp (a_t A) (a_n A) p) s k e (hf.trans e0) eT hp (by rw [hX, pAll_end hq]; rfl)
  exact J18 (a_n A) 0 (a_s A) 0 d0 (by omega) (Nat.zero_le _) hO.m fr.rfl hT0 (fun _ _ => rfl) (by show pAll _ _ _ _ _ = _; rw [Nat.zero_add])
set_option maxHeartbeats 4000000 in
set_option maxRecDepth 100000 in
theorem p_load {A : AS}  (hM : MM d A) (hO : OK A) (hQ : ∀ d', mfr d d' → MM d' (opLoad A).2 → Q (some (.int (opLoad A).1)) S1 d') : mC G mX11_load [.ref 214] S1 d Q := by
  refine mC_of (by decide +kernel) ⟨_, rfl⟩ (Nat.le_of_ble_eq_true rfl) ?_
  show mM G mX11_load 0 [some (.ref 214), none, none] [] S1 d (0, 0) Q
  refine m_aload_n (pc' := 1) dX11_load_0 rfl rfl ?_
  refine m_iconst (pc' := 2) (v := 0) dX11_load_1 (by decide) rfl ?_
  refine m_putI (pc' := 5) (ty := .int) fa_X11_load_29 dX11_load_2 (by decide +kernel) rfl rfl (by decide) rfl rfl rfl ?_
  refine m_aload_n (pc' := 6) dX11_load_5 rfl rfl ?_
  refine m_callV (pc' := 9) (A := []) (rest := []) (b := 214) cl_X11_load_182 dX11_load_6 rfl rfl (Nat.le_of_ble_eq_true rfl) ⟨by decide, by decide⟩ (by decide) rfl rfl rfl rfl ?_
  refine c_mhold (s := a_s A) (b := d.1 216) hM.1 rfl (fun e e0 e1 => ?_)
  show mM G mX11_load 9 [some (.ref 214), none, none] [] S1 e (0, 0) Q
  refine m_aload_n (pc' := 10) dX11_load_9 rfl rfl ?_
  refine m_iconst (pc' := 11) (v := 0) dX11_load_10 (by decide) rfl ?_
  refine m_putI (pc' := 14) (ty := .int) fa_X11_load_150 dX11_load_11 (by decide +kernel) rfl rfl (by decide) rfl rfl rfl ?_
  refine m_iconst (pc' := 15) (v := 0) dX11_load_14 (by decide) rfl ?_
  refine m_istore_n (pc' := 16) dX11_load_15 (by decide) rfl rfl ?_
  refine m_iconst (pc' := 17) (v := 1) dX11_load_16 (by decide) rfl ?_
  refine m_istore_n (pc' := 18) dX11_load_17 (by decide) rfl rfl ?_
  refine p_load0 (d0 := (u2 e.1 214 15 0, e.2)) hO ?_ ?_ ?_ hQ ?_
  · exact (mfr.th.trans (e0.mf (by intro a j h; have : a = 216 := h; omega) (fun _ _ => False.elim))).trans (ldF_mf (fr.i fr.rfl _ (Or.inr (Or.inr ⟨rfl, Or.inl rfl⟩))))
  · exact MM.ldf (s := a_s A) (T := A.2) (MM.ldf (s := a_s A) (T := A.2) hM.th (e0.mono (fun a j h => Or.inr (Or.inl h)) (fun _ _ => id)) ((e0.row (by intro j; show ¬ (_ = _); omega)).trans hM.1)) (fr.i fr.rfl _ (Or.inr (Or.inr ⟨rfl, Or.inl rfl⟩))) ((e0.row (by intro j; show ¬ (_ = _); omega)).trans hM.1)
  · exact e1
  · exact ⟨(e0.row (by intro j; show ¬ (_ = _); omega)).trans hM.2.2.2.2.2.2.1, (e0.1 214 8 (by show ¬ (_ = _); omega)).trans hM.2.2.2.2.2.2.2, rfl, (e0.row (by intro j; show ¬ (_ = _); omega)).trans hM.1⟩
end MOD14
