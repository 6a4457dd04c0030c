theorem sU_sU (s : SS) (k : Nat) (v w : Int32) : sU (sU s k v) k w = sU s k w := by
  funext j; unfold sU
  by_cases h : j = k
  · rw [if_pos h, if_pos h]
  · rw [if_neg h, if_neg h, if_neg h]
theorem sU_id (s : SS) (k : Nat) : sU s k (s k) = s := by
  funext j; unfold sU
  by_cases h : j = k
  · rw [if_pos h, h]
  · rw [if_neg h]
theorem okC_lo {s s' : SS} (h : lo43 s s') {c : Nat} (hc : c < 8) (ho : okC s c) : okC s' c := by
  unfold okC at ho ⊢
  rw [h (5 * c) (by omega), h (5 * c + 1) (by omega), h (5 * c + 2) (by omega), h (5 * c + 3) (by omega), h (5 * c + 4) (by omega)]
  exact ho
theorem okL_set {s : SS} {n e q : Nat} (h : okL s n) (hq : q ≤ 7) : okL (sU s (45 + 2 * e) (nI q)) n := by
  refine ⟨h.1, (sU_ne _ _ (by omega)).trans h.2.1, fun i hi => ?_⟩
  obtain ⟨⟨p, h1, h2⟩, q1, h3, h4⟩ := h.2.2 i hi
  refine ⟨⟨p, h1, (sU_ne _ _ (by omega)).trans h2⟩, ?_⟩
  by_cases hie : i = e
  · subst hie; exact ⟨q, hq, sU_eq _ _ _⟩
  · exact ⟨q1, h3, (sU_ne _ _ (by omega)).trans h4⟩
theorem lo43_set (s : SS) (e : Nat) (v : Int32) : lo43 s (sU s (45 + 2 * e) v) := fun j hj => sU_ne _ _ (by omega)
theorem ee_set {s : SS} {n e q t0 : Nat} {h0 : UInt32} (h : okL s n) (he : e < n) (hq : q ≤ 7) : ee (sU s (45 + 2 * e) (nI q)) t0 h0 e = xe s (pn s e) q (et s t0 e) (eh s t0 h0 e) := by
  have hlo := lo43_set s e (nI q)
  have hl : ∀ i, i < e → sU s (45 + 2 * e) (nI q) (44 + 2 * i) = s (44 + 2 * i) ∧ sU s (45 + 2 * e) (nI q) (45 + 2 * i) = s (45 + 2 * i) := fun i hi => ⟨sU_ne _ _ (by omega), sU_ne _ _ (by omega)⟩
  have hp : ∀ i, i < e → pn s i ≤ 9 := fun i hi => (okL_p h (by omega)).2
  unfold ee
  rw [show pn (sU s (45 + 2 * e) (nI q)) e = pn s e by unfold pn; rw [sU_ne _ _ (by omega)], show qn (sU s (45 + 2 * e) (nI q)) e = q by unfold qn; rw [sU_eq]; exact nI_clamp (by omega), l3_et t0 (fun i hi => (hl i hi).2) e (Nat.le_refl e), l3_eh hlo t0 h0 hp hl e (Nat.le_refl e), l3_xe hlo (okL_p h he).2]
theorem stl_stay {s : SS} {t : Nat} {h : UInt32} {p : Nat} {lim : Int32} {q : Nat} (hn : ¬ stl s t h p lim q = -10000009) : ∀ k, stl s t h p lim (q + k) = stl s t h p lim q
  | 0 => rfl
  | k + 1 => by
    have h1 := stl_stay hn k
    show (if stl s t h p lim (q + k) = -10000009 then _ else stl s t h p lim (q + k)) = _
    rw [if_neg (by rw [h1]; exact hn), h1]
theorem stl_stay8 {s : SS} {t : Nat} {h : UInt32} {p : Nat} {lim : Int32} {q : Nat} (hq : q ≤ 8) (hn : ¬ stl s t h p lim q = -10000009) : stl s t h p lim q = stl s t h p lim 8 := by
  have := stl_stay hn (8 - q)
  rw [show q + (8 - q) = 8 by omega] at this
  exact this.symm
theorem n0_77 {s : SS} {cnt p : Nat} {tm r c e : Int32} : n0 s cnt p tm r c e 77 = s 77 := by
  unfold n0; rw [sU_ne _ _ (by omega), sU_ne _ _ (by omega), sU_ne _ _ (by omega), sU_ne _ _ (by omega), sU_ne _ _ (by omega)]
theorem ix_o {a j b : Nat} (h : a + j = b) : nI a + nI j = nI b := by rw [nI_add, h]
theorem okL_in {s s' : SS} {n : Nat} (h : sin s s') (hl : okL s n) : okL s' n := by
  refine ⟨hl.1, (h 43 (by decide)).trans hl.2.1, fun i hi => ?_⟩
  have h16 := hl.1
  rw [h _ (by omega), h _ (by omega)]
  exact hl.2.2 i hi
theorem lo_in {s s' : SS} (h : sin s s') : lo43 s s' := fun j hj => h j (by omega)
theorem ntS_77 {s : SS} {cnt p q : Nat} {tm r c e : Int32} (hc : cnt ≤ 32) (hp : p ≤ 9) : ∃ k, k ≤ 32 ∧ ntS s cnt p q tm r c e 77 = nI k := by
  have hai : (if p < 8 then 88 else 81 + p) ≠ 77 := by split <;> omega
  have h0 : ∀ (s : SS) (cnt : Nat), nt0 s cnt p q tm r c e 77 = nI (cnt + 1) := by
    intro s cnt
    unfold nt0
    rw [sU_ne _ _ (by omega), sU_ne _ _ (by omega), sU_ne _ _ (Ne.symm hai), sU_ne _ _ (by omega), sU_eq]
  unfold ntS
  split
  · exact ⟨32, by omega, h0 _ _⟩
  · exact ⟨cnt + 1, by omega, h0 _ _⟩
/-- what holds through a scan -/
def scI (s : SS) (b : Nat) (S : SC) : Prop := sin s S.1 ∧ S.2.1 ≤ b ∧ ∃ cnt, cnt ≤ 32 ∧ S.1 77 = nI cnt
theorem scI_E {s : SS} {n b i : Nat} {S : SC} (hl : okL s n) (hi : i < n) (h : scI s b S) : scI s (b + 8) (scE i S) := by
  obtain ⟨h1, h2, cnt, h3, h4⟩ := h
  have hq := (okL_q (okL_in h1 hl) hi).2
  have hp := (okL_p (okL_in h1 hl) hi).2
  have e1 : nn (S.1 77) = cnt := by rw [h4]; exact nn_nI (by omega)
  refine ⟨fun j hj => ?_, ?_, ?_⟩
  · show ntS S.1 (nn (S.1 77)) _ _ _ _ _ _ j = _
    rw [e1, ntS_in h3 j hj, h1 j hj]
  · show S.2.1 + (qn S.1 i + 1) ≤ _; omega
  · show ∃ k, k ≤ 32 ∧ ntS S.1 (nn (S.1 77)) _ _ _ _ _ _ 77 = nI k
    rw [e1]; exact ntS_77 h3 hp
theorem scI_L {s : SS} {n b : Nat} {S : SC} (hl : okL s n) (h : scI s b S) : ∀ i, i ≤ n → scI s (b + 8 * i) (scL i S)
  | 0, _ => h
  | i + 1, hi => scI_E hl (by omega) (scI_L hl h i (by omega))
theorem scI_R {s : SS} {n b : Nat} {S : SC} (hl : okL s n) (h : scI s b S) : ∀ k, scI s (b + 128 * k) (scR n k S)
  | 0 => h
  | k + 1 => by
    have h1 := scI_L hl (scI_R hl h k) n (Nat.le_refl n)
    have := hl.1
    exact ⟨h1.1, Nat.le_trans h1.2.1 (by omega), h1.2.2⟩
theorem bin_t1 {v : Int32} {b : Nat} (hb : b < 2 ^ 31) (h : ¬ bin v 1 (nI b) = 0) : ∃ j, 1 ≤ j ∧ j ≤ b ∧ v = nI j := by
  unfold bin at h
  by_cases c : 1 ≤ v ∧ v ≤ nI b
  · have h0 : ¬ v < 0 := fun h => by
      have h1 := Int32.lt_iff_toInt_lt.mp h
      have h2 := Int32.le_iff_toInt_le.mp c.1
      have e1 : (1 : Int32).toInt = 1 := by decide
      have e2 : (0 : Int32).toInt = 0 := by decide
      omega
    obtain ⟨j, hj, rfl⟩ := nI_of h0
    exact ⟨j, (nI_leI (a := 1) (by decide) hj).mp c.1, (nI_leI hj hb).mp c.2, rfl⟩
  · rw [if_neg c] at h; exact absurd rfl h
