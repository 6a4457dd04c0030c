/-! THE PROPERTY (5): what would be comes in the scan; the law's end -/
theorem scl_e {s : SS} {n t : Nat} {h : UInt32} {c0 : Nat} (hl : okL s n) (hc : c0 ≤ 32) (h77 : s 77 = nI c0) : ∀ i, i ≤ n → sin s (scL i (s, t, h)).1 ∧ (scL i (s, t, h)).2.1 = et s t i ∧ (scL i (s, t, h)).2.2 = eh s t h i ∧ ∃ c, c ≤ 32 ∧ (scL i (s, t, h)).1 77 = nI c
  | 0, _ => ⟨fun _ _ => rfl, rfl, rfl, c0, hc, h77⟩
  | i + 1, hi => by
    obtain ⟨h1, h2, h3, c, h4, h5⟩ := scl_e (t := t) (h := h) hl hc h77 i (by omega)
    have hp := (okL_p hl (show i < n by omega)).2
    have h16 := hl.1
    have ep : pn (scL i (s, t, h)).1 i = pn s i := by unfold pn; rw [h1 _ (by omega)]
    have eq : qn (scL i (s, t, h)).1 i = qn s i := qn_in h1 hl.1 (by omega)
    have e1 : nn ((scL i (s, t, h)).1 77) = c := by rw [h5]; exact nn_nI (by omega)
    refine ⟨fun j hj => ?_, ?_, ?_, ?_⟩
    · show ntS (scL i (s, t, h)).1 (nn ((scL i (s, t, h)).1 77)) _ _ _ _ _ _ j = _
      rw [e1, ntS_in h4 j hj, h1 j hj]
    · show (scL i (s, t, h)).2.1 + (qn (scL i (s, t, h)).1 i + 1) = et s t i + (qn s i + 1)
      rw [h2, eq]
    · show xh (scL i (s, t, h)).1 (pn (scL i (s, t, h)).1 i) (qn (scL i (s, t, h)).1 i) (scL i (s, t, h)).2.1 (scL i (s, t, h)).2.2 = xh s (pn s i) (qn s i) (et s t i) (eh s t h i)
      rw [ep, eq, h2, h3, l3_xh (lo_in h1) hp]
    · show ∃ k, k ≤ 32 ∧ ntS (scL i (s, t, h)).1 (nn ((scL i (s, t, h)).1 77)) _ _ _ _ _ _ 77 = nI k
      rw [e1]; exact ntS_77 h4 (by rw [ep]; exact hp)
theorem et_slN (s : SS) (t : Nat) : ∀ i, et s t i = t + slN s i
  | 0 => rfl
  | i + 1 => by show et s t i + (qn s i + 1) = t + (slN s i + (qn s i + 1)); rw [et_slN s t i]; omega
theorem tp_now {A : AS} {T : Nat} (hI : tp_I A T) (hT : T + 128 ≤ 9999) (hn : 0 < nn (a_s A 43)) :
    ¬ (opScan A 1).1 < 0 ∧ tp_I (opScan A 1).2 (T + 128) ∧ vCount (opScan A 1).2 0 = vCount A 0 + vCount A 7 ∧
    vSample (opScan A 1).2 0 0 = vEntry (opScan A 1).2 (nI (nn (a_s A 43) - 1)) 0 ∧ vSample (opScan A 1).2 0 1 = vCount A 0 + vCount A 7 - 1 ∧
    vSample (opScan A 1).2 0 2 = vWould A (nI (nn (a_s A 43) - 1)) 0 ∧ vSample (opScan A 1).2 0 3 = vWould A (nI (nn (a_s A 43) - 1)) 1 ∧ vSample (opScan A 1).2 0 4 = vWould A (nI (nn (a_s A 43) - 1)) 2 := by
  have hO := hI.1
  obtain ⟨t, t1, t2, t3, t4⟩ := tp_76 hI
  have hl := okL_n hO.1.1
  have h16 := hl.1
  obtain ⟨c0, h0, h77⟩ := hO.1.2.2.1
  obtain ⟨s1, s2⟩ := sls_nI hl (nn (a_s A 43)) (Nat.le_refl _)
  -- the call's own form
  obtain ⟨w0, w1, w2⟩ := tp_w0 (k := nn (a_s A 43) - 1) hO (by omega)
  have b1 : ¬ bin (1 : Int32) 1 20 = 0 := by decide
  have b2 : ¬ a_s A 43 = 0 := by rw [hl.2.1]; exact nI_ne0 hn (by omega)
  have b3 : ¬ 9999 < a_s A 76 + 1 * sls (a_s A) (nn (a_s A 43)) := by
    rw [t3, s1, Int32.one_mul, nI_add]; exact nI_nlt (a := 9999) (by omega) (by decide)
  have hop : opScan A 1 = ((scR (nn (a_s A 43)) 1 (a_s A, t, a_h A)).1 93 - a_s A 93, rec A (sU (scR (nn (a_s A 43)) 1 (a_s A, t, a_h A)).1 76 (nI (scR (nn (a_s A 43)) 1 (a_s A, t, a_h A)).2.1)) (scR (nn (a_s A 43)) 1 (a_s A, t, a_h A)).2.2) := by
    unfold opScan
    rw [if_neg b1, if_neg b2, if_neg b3, t4]; rfl
  obtain ⟨R, S, H, hF⟩ := tp_scan (n := 1) (N := 128) (fun k hk _ => by
    have := (nI_eq (a := 1) (by decide) (show k < 2 ^ 31 by omega)).mp hk
    omega)
  obtain ⟨t0, c, m, τ, g1, g2, g3, g4, g5, g6, g7, g8, g9, g10⟩ := hI.2.2.2.2
  have et0 : t0 = t := by
    by_cases z : t0 < 2 ^ 31
    · rw [t3] at g1; exact ((nI_eq (by omega) z).mp g1).symm
    · omega
  subst et0
  have hS0 : tp_S (a_s A) 0 (a_s A, t0, a_h A) := ⟨fun _ _ => rfl, fun _ _ => rfl, ⟨c, m, τ, g3, g4, g5, g6, g7, g8, g9, g10⟩, 0, Nat.zero_le _, by show _ = _ + 0; rw [Int32.add_zero]⟩
  obtain ⟨-, -, -, y, y1, y2⟩ := tp_SR hl hS0 1
  have hans : (opScan A 1).1 = nI y := by
    rw [hop]; show (scR (nn (a_s A 43)) 1 (a_s A, t0, a_h A)).1 93 - a_s A 93 = _
    rw [y2, Int32.add_comm, Int32.add_sub_cancel]
  have hy : y < 2 ^ 31 := by omega
  have hInew : tp_I (opScan A 1).2 (T + 128) := by
    rcases hF A T hI hT with ⟨k1, -, k3⟩ | ⟨k1, k2, -, -, k5⟩
    · have k1 : (opScan A 1).1 = _ := k1
      rw [← k1, hans] at k3
      exact absurd k3 (tp_nI hy)
    · have k2 : (opScan A 1).2 = _ := k2
      exact ⟨O_scan hO, by rw [k2]; exact hI.2.1, by rw [k2]; exact k5⟩
  refine ⟨by rw [hans]; exact nI_pos hy, hInew, ?_⟩
  -- the last entry
  obtain ⟨j, hj⟩ : ∃ j, nn (a_s A 43) = j + 1 := ⟨nn (a_s A 43) - 1, by omega⟩
  rw [hj] at hop w0 w1 w2 hl s1 s2 ⊢
  rw [Nat.add_sub_cancel] at w0 w1 w2 ⊢
  obtain ⟨i1, i2, i3, c', i4, i5⟩ := scl_e (t := t0) (h := a_h A) hl h0 h77 j (by omega)
  have hsc : scR (j + 1) 1 (a_s A, t0, a_h A) = scE j (scL j (a_s A, t0, a_h A)) := rfl
  rw [hsc] at hop
  have hp := (okL_p hl (show j < j + 1 by omega)).2
  have hq := (okL_q hl (show j < j + 1 by omega)).2
  have ep : pn (scL j (a_s A, t0, a_h A)).1 j = pn (a_s A) j := by unfold pn; rw [i1 _ (by omega)]
  have eq : qn (scL j (a_s A, t0, a_h A)).1 j = qn (a_s A) j := qn_in i1 hl.1 (by omega)
  have e1 : nn ((scL j (a_s A, t0, a_h A)).1 77) = c' := by rw [i5]; exact nn_nI (by omega)
  have hE : scE j (scL j (a_s A, t0, a_h A)) = (ntS (scL j (a_s A, t0, a_h A)).1 c' (pn (a_s A) j) (qn (a_s A) j) (nI (et (a_s A) t0 j + qn (a_s A) j)) (er (a_s A) t0 (a_h A) j) (ec (a_s A) t0 (a_h A) j) (ee (a_s A) t0 (a_h A) j), et (a_s A) t0 j + (qn (a_s A) j + 1), eh (a_s A) t0 (a_h A) (j + 1)) := by
    have hlo := lo_in i1
    unfold scE
    rw [e1, ep, eq, i2, i3, l3_xr hlo hp, l3_xc hlo hp, l3_xe hlo hp, l3_xh hlo hp]
    rfl
  rw [hE] at hop
  dsimp only at hop
  generalize (scL j (a_s A, t0, a_h A)).1 = sj at *
  have lg : 1 ≤ lgn c' ∧ lgn c' ≤ 32 := by unfold lgn; split <;> omega
  obtain ⟨n0, n1, n2, n3, n4⟩ := ntS_new (s := sj) (cnt := c') (p := pn (a_s A) j) (q := qn (a_s A) j) (tm := nI (et (a_s A) t0 j + qn (a_s A) j)) (r := er (a_s A) t0 (a_h A) j) (c := ec (a_s A) t0 (a_h A) j) (e := ee (a_s A) t0 (a_h A) j) hp
  have n77 := ntS_77v (s := sj) (cnt := c') (p := pn (a_s A) j) (q := qn (a_s A) j) (tm := nI (et (a_s A) t0 j + qn (a_s A) j)) (r := er (a_s A) t0 (a_h A) j) (c := ec (a_s A) t0 (a_h A) j) (e := ee (a_s A) t0 (a_h A) j) hp
  have nin := ntS_in (s := sj) (cnt := c') (p := pn (a_s A) j) (q := qn (a_s A) j) (tm := nI (et (a_s A) t0 j + qn (a_s A) j)) (r := er (a_s A) t0 (a_h A) j) (c := ec (a_s A) t0 (a_h A) j) (e := ee (a_s A) t0 (a_h A) j) i4
  generalize ntS sj c' (pn (a_s A) j) (qn (a_s A) j) (nI (et (a_s A) t0 j + qn (a_s A) j)) (er (a_s A) t0 (a_h A) j) (ec (a_s A) t0 (a_h A) j) (ee (a_s A) t0 (a_h A) j) = sn at *
  have hs2 : a_s (opScan A 1).2 = sU sn 76 (nI (et (a_s A) t0 j + (qn (a_s A) j + 1))) := by rw [hop]; rfl
  have ne : ∀ x, x ≠ 76 → a_s (opScan A 1).2 x = sn x := fun x hx => by rw [hs2]; exact sU_ne _ _ hx
  have cn : vCount A 0 + vCount A 7 = nI (et (a_s A) t0 j + (qn (a_s A) j + 1)) := by
    show a_s A 76 + sls (a_s A) (nn (a_s A 43)) = _
    rw [t3, hj, s1, nI_add, et_slN]
    exact congrArg nI (by show t0 + (slN (a_s A) j + (qn (a_s A) j + 1)) = _; omega)
  have sm : ∀ w : Nat, w ≤ 4 → vSample (opScan A 1).2 0 (nI w) = sn (94 + 5 * (lgn c' - 1) + w) := fun w hw => by
    unfold vSample
    rw [if_neg, if_pos]
    · rw [ne 77 (by decide), n77, nn_nI (by omega), nn_nI (by omega), show nn (0 : Int32) = 0 from rfl, Nat.sub_zero]
      exact ne _ (by omega)
    · rw [ne 77 (by decide), n77]; exact nI_lt (a := 0) (by omega) (by omega)
    · intro z
      rcases z with z | z
      · exact absurd z (by decide)
      · rw [show (4 : Int32) = nI 4 from rfl, bin_nI hw] at z; cases z
  have hw0 : nn (a_s A 76) = t0 := t4
  refine ⟨?_, ?_, ?_, ?_, ?_, ?_⟩
  · show a_s (opScan A 1).2 76 = _
    rw [cn, hs2]; exact sU_eq _ _ _
  · rw [show (0 : Int32) = nI 0 from rfl, show vSample (opScan A 1).2 (nI 0) (nI 0) = _ from sm 0 (by decide), Nat.add_zero, n0]
    have h43 : a_s (opScan A 1).2 43 = a_s A 43 := by rw [ne 43 (by decide), nin 43 (by decide), i1 43 (by decide)]
    have hk : j < nn (a_s (opScan A 1).2 43) := by rw [h43, hj]; omega
    rw [tp_entry (A := (opScan A 1).2) (O_scan hO) hk 0 (by decide), Nat.add_zero, ne _ (by omega), nin _ (by omega), i1 _ (by omega)]
    exact (okL_p hl (show j < j + 1 by omega)).1.symm
  · refine (show vSample (opScan A 1).2 0 1 = _ from sm 1 (by decide)).trans ?_
    rw [n1, cn, show (1 : Int32) = nI 1 from rfl, pk_sub (by omega)]
    exact congrArg nI (by omega)
  · rw [show (2 : Int32) = nI 2 from rfl, show vSample (opScan A 1).2 0 (nI 2) = _ from sm 2 (by decide), n2, w0, hw0]
  · rw [show (3 : Int32) = nI 3 from rfl, show vSample (opScan A 1).2 0 (nI 3) = _ from sm 3 (by decide), n3, w1, hw0]
  · rw [show (4 : Int32) = nI 4 from rfl, show vSample (opScan A 1).2 0 (nI 4) = _ from sm 4 (by decide), n4, w2, hw0]
/-- the calls that are refused at the end; the empty text read -/
theorem tp_end (A : AS) : opSetSource A 0 0 1 1 0 = (-10000001, A) ∧ opSetSource A 0 2 1 1 1 = (-10000001, A) ∧ opSetSource A 0 3 0 0 0 = (-10000001, A) ∧ opSet A 1 899 = (-10000001, A) ∧ opAdd A 10 0 0 = (-10000001, A) ∧ opScan A 21 = (-10000001, A) ∧ opPass A 0 = (-10000001, A) :=
  ⟨if_pos (by decide), if_pos (by decide), if_pos (by decide), if_pos (by decide), if_pos (Or.inl (by decide)), if_pos (by decide), if_pos (by decide)⟩
theorem tp_load {A : AS} (hn : a_n A = 0) : (opLoad A).1 = 0 ∧ dgF (opLoad A).2 = dgF A := by
  have e : pTxt A = (1, 0, skp (a_t A) 0 0, a_s A) := by unfold pTxt; rw [hn]; rfl
  unfold opLoad
  rw [e, if_neg (by dsimp only; decide)]
  exact ⟨rfl, dgF_cg rfl rfl⟩
theorem tp_13 (A : AS) : vCount A 13 = -10000001 ∧ vHeld A 3 = -10000001 := ⟨rfl, rfl⟩
