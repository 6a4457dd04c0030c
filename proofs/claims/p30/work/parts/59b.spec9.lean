/-! ITEMS: what holds of what they leave -/
theorem sgn_lt {t : SS} {n q : Nat} {c : Int32} (h : sgn t n q = c) (hc : ¬ (-1 : Int32) = c) : q < n := Nat.not_le.mp (fun h2 => hc (by unfold sgn at h; rw [if_neg (by omega)] at h; exact h))
theorem tkp_ge {t : SS} {n p : Nat} {c : Int32} (h : p ≤ n) : p ≤ tkp t n c p := by
  have h1 := skp_le' (t := t) h
  unfold tkp; split <;> omega
theorem tkp_gt {t : SS} {n p : Nat} {c : Int32} (h : p ≤ n) (hk : tkk t n c p) : p < tkp t n c p := by
  have h1 := skp_le' (t := t) h
  unfold tkp; rw [if_pos hk]; omega
theorem rdp_ge {t : SS} {n p : Nat} {lo hi : Int32} (h : p ≤ n) : p ≤ rdp t n lo hi p := by
  have h1 := skp_le' (t := t) h
  have h2 := (dgt_le (t := t) (n := n) (n - skp t n p) (skp t n p) 0 (by omega)).2
  unfold rdp; split <;> omega
def pG (n p : Nat) (s : SS) (r : PR) : Prop := r.2.1 ≤ n ∧ (r.1 = 0 ∨ (r.1 = 1 ∧ p < r.2.1)) ∧ (∀ j, 76 ≤ j → r.2.2 j = s j) ∧ okm r.2.2
theorem pG_mono {n p p' : Nat} {s : SS} {r : PR} (h : pG n p' s r) (hp : p ≤ p') : pG n p s r := ⟨h.1, h.2.1.imp_right (fun q => ⟨q.1, by have := q.2; omega⟩), h.2.2⟩
theorem pG_st {n p : Nat} {s s' : SS} {r : PR} (h : pG n p s' r) (hs : ∀ j, 76 ≤ j → s' j = s j) : pG n p s r := ⟨h.1, h.2.1, fun j hj => (h.2.2.1 j hj).trans (hs j hj), h.2.2.2⟩
theorem pG_no {n p p' : Nat} {s : SS} (h : p' ≤ n) (hm : okm s) : pG n p s (0, p', s) := ⟨h, Or.inl rfl, fun _ _ => rfl, hm⟩
theorem pG_01 {n p : Nat} {s : SS} {r : PR} (h : pG n p s r) : r.1 = 0 ∨ r.1 = 1 := h.2.1.imp_right (fun q => q.1)
theorem pEnd_G {t : SS} {n p : Nat} {s : SS} (hp : p ≤ n) (hm : okm s) : pG n p s (pEnd t n p s) := by
  refine ⟨tkp_le hp (by decide), ?_, fun _ _ => rfl, hm⟩
  show tkv t n 59 p = 0 ∨ (tkv t n 59 p = 1 ∧ p < tkp t n 59 p)
  by_cases h : tkk t n 59 p
  · exact Or.inr ⟨if_pos h, tkp_gt hp h⟩
  · exact Or.inl (if_neg h)
theorem pso_hi {s : SS} {c : Nat} {k l x y : Int32} (hc : c < 8) : ∀ j, 43 ≤ j → pso s c k l x y j = s j := fun j hj => by
  unfold pso; rw [sU_ne _ _ (by omega), sU_ne _ _ (by omega), sU_ne _ _ (by omega), sU_ne _ _ (by omega)]
theorem okm_pso {s : SS} {c : Nat} {k l x y : Int32} (hc : c < 8) (hm : okm s) : okm (pso s c k l x y) := by
  obtain ⟨m, h1, h2⟩ := hm; exact ⟨m, h1, (pso_hi hc 43 (by omega)).trans h2⟩
theorem pEndS_G {t : SS} {n p p' c : Nat} {s : SS} {k l x y : Int32} (hp : p' ≤ n) (hpp : p ≤ p') (hc : c < 8) (hm : okm s) : pG n p s (pEnd t n p' (pso s c k l x y)) :=
  pG_mono (pG_st (pEnd_G hp (okm_pso hc hm)) (fun j hj => pso_hi hc j (by omega))) hpp
theorem pEnt2_G {t : SS} {n p : Nat} {s : SS} {pl q : Int32} (hp : p ≤ n) (hm : okm s) (h16 : ¬ s 43 = 16) : pG n p s (pEnt2 t n pl q p s) := by
  unfold pEnt2
  by_cases h : tkk t n 59 p
  · rw [if_pos h]
    obtain ⟨e1, e2⟩ := okm_n hm
    have hne : nn (s 43) ≠ 16 := fun h => h16 (by rw [e1, h]; rfl)
    refine ⟨tkp_le hp (by decide), Or.inr ⟨rfl, tkp_gt hp h⟩, fun j hj => ?_, ⟨nn (s 43) + 1, by omega, ?_⟩⟩
    · show ins _ _ _ _ _ j = _
      unfold ins
      rw [if_neg (by omega), if_neg (by omega), if_neg (by omega), if_neg (by omega)]
    · exact (if_pos rfl : ins s (nn (s 43)) (nn (s 43)) pl q 43 = nI (nn (s 43) + 1))
  · rw [if_neg h]; exact pG_no (tkp_le hp (by decide)) hm
theorem pEnt1_G {t : SS} {n p : Nat} {s : SS} {pl : Int32} (hp : p ≤ n) (hm : okm s) (h16 : ¬ s 43 = 16) : pG n p s (pEnt1 t n pl p s) := by
  unfold pEnt1
  split
  · exact pG_mono (pEnt2_G (rdp_le hp) hm h16) (rdp_ge hp)
  · exact pG_no (rdp_le hp) hm
theorem pEntry_G {t : SS} {n p : Nat} {s : SS} {pl : Int32} (hp : p ≤ n) (hm : okm s) : pG n p s (pEntry t n pl p s) := by
  have h1 := skp_le' (t := t) hp
  unfold pEntry
  by_cases h : ¬ tkk t n 58 p ∨ s 43 = 16
  · rw [if_pos h]; exact pG_no h1.1 hm
  · rw [if_neg h]
    have hk : tkk t n 58 p := Classical.not_not.mp (fun q => h (Or.inl q))
    have := sgn_lt (t := t) (n := n) hk (by decide)
    exact pG_mono (pEnt1_G (by omega) hm (fun q => h (Or.inr q))) (by omega)
theorem pRes_G {t : SS} {n p c : Nat} {s : SS} (hp : p ≤ n) (hc : c < 8) (hm : okm s) : pG n p s (pRes t n c p s) := by
  unfold pRes
  split
  · refine pG_mono (pG_st (pEnd_G (rdp_le hp) ?_) (fun j hj => sU_ne _ _ (by omega))) (rdp_ge hp)
    obtain ⟨m, h1, h2⟩ := hm; exact ⟨m, h1, (sU_ne _ _ (by omega)).trans h2⟩
  · exact pG_no (rdp_le hp) hm
theorem pRis_G {t : SS} {n p c : Nat} {s : SS} {l g : Int32} (hp : p ≤ n) (hc : c < 8) (hm : okm s) : pG n p s (pRis t n c l g p s) := by
  unfold pRis
  split
  · exact pEndS_G (rdp_le hp) (rdp_ge hp) hc hm
  · exact pG_no (rdp_le hp) hm
theorem pJmp2_G {t : SS} {n p c : Nat} {s : SS} {l x : Int32} (hp : p ≤ n) (hc : c < 8) (hm : okm s) : pG n p s (pJmp2 t n c l x p s) := by
  unfold pJmp2
  split
  · exact pEndS_G (rdp_le hp) (rdp_ge hp) hc hm
  · exact pG_no (rdp_le hp) hm
theorem pJmp1_G {t : SS} {n p c : Nat} {s : SS} {l x : Int32} (hp : p ≤ n) (hc : c < 8) (hm : okm s) : pG n p s (pJmp1 t n c l x p s) := by
  unfold pJmp1
  split
  · exact pG_mono (pJmp2_G (tkp_le hp (by decide)) hc hm) (tkp_ge hp)
  · exact pG_no (tkp_le hp (by decide)) hm
theorem pJmp_G {t : SS} {n p c : Nat} {s : SS} {l : Int32} (hp : p ≤ n) (hc : c < 8) (hm : okm s) : pG n p s (pJmp t n c l p s) := by
  unfold pJmp
  split
  · exact pG_mono (pJmp1_G (rdp_le hp) hc hm) (rdp_ge hp)
  · exact pG_no (rdp_le hp) hm
theorem pSrc3_G {t : SS} {n p c : Nat} {s : SS} {l : Int32} (hp : p ≤ n) (hc : c < 8) (hm : okm s) : pG n p s (pSrc3 t n c l p s) := by
  unfold pSrc3
  split
  · exact pG_mono (pJmp_G (tkp_le hp (by decide)) hc hm) (tkp_ge hp)
  · exact pEndS_G (tkp_le hp (by decide)) (tkp_ge hp) hc hm
theorem pSrc2_G {t : SS} {n p c : Nat} {s : SS} {l : Int32} (hp : p ≤ n) (hc : c < 8) (hm : okm s) : pG n p s (pSrc2 t n c l p s) := by
  unfold pSrc2
  split
  · exact pG_mono (pRis_G (tkp_le hp (by decide)) hc hm) (tkp_ge hp)
  · exact pG_mono (pSrc3_G (tkp_le hp (by decide)) hc hm) (tkp_ge hp)
theorem pSrc1_G {t : SS} {n p c : Nat} {s : SS} {l : Int32} (hp : p ≤ n) (hc : c < 8) (hm : okm s) : pG n p s (pSrc1 t n c l p s) := by
  unfold pSrc1
  split
  · exact pG_mono (pRis_G (tkp_le hp (by decide)) hc hm) (tkp_ge hp)
  · exact pG_mono (pSrc2_G (tkp_le hp (by decide)) hc hm) (tkp_ge hp)
theorem pSrc_G {t : SS} {n p c : Nat} {s : SS} (hp : p ≤ n) (hc : c < 8) (hm : okm s) : pG n p s (pSrc t n c p s) := by
  unfold pSrc
  split
  · exact pG_mono (pSrc1_G (rdp_le hp) hc hm) (rdp_ge hp)
  · exact pG_no (rdp_le hp) hm
theorem pItem3_G {t : SS} {n p c : Nat} {s : SS} (hp : p ≤ n) (hc : c < 8) (hm : okm s) : pG n p s (pItem3 t n c p s) := by
  unfold pItem3
  split
  · exact pG_mono (pRes_G (tkp_le hp (by decide)) hc hm) (tkp_ge hp)
  · exact pG_mono (pEntry_G (tkp_le hp (by decide)) hm) (tkp_ge hp)
theorem pItem2_G {t : SS} {n p c : Nat} {s : SS} (hp : p ≤ n) (hc : c < 8) (hm : okm s) : pG n p s (pItem2 t n c p s) := by
  unfold pItem2
  split
  · exact pG_mono (pSrc_G (tkp_le hp (by decide)) hc hm) (tkp_ge hp)
  · exact pG_mono (pItem3_G (tkp_le hp (by decide)) hc hm) (tkp_ge hp)
theorem rdv_nI {t : SS} {n p : Nat} {b : Nat} (hb : b < 2 ^ 31) (h : rdok t n 0 (nI b) (skp t n p)) : rdv t n p = nI (nn (rdv t n p)) ∧ nn (rdv t n p) ≤ b := by
  obtain ⟨j, h1, h2⟩ := bin_t hb h.2.2
  have e : rdv t n p = nI j := h2
  rw [e, nn_nI (by omega)]; exact ⟨rfl, h1⟩
theorem pNum_G {t : SS} {n p : Nat} {s : SS} (hp : p ≤ n) (hm : okm s) : pG n p s (pNum t n p s) := by
  unfold pNum
  by_cases h : rdok t n 0 7 (skp t n p)
  · rw [if_pos h]
    have := (rdv_nI (b := 7) (by decide) h).2
    exact pG_mono (pItem2_G (rdp_le hp) (by omega) hm) (rdp_ge hp)
  · rw [if_neg h]; exact pG_no (rdp_le hp) hm
theorem pItem1_G {t : SS} {n p : Nat} {s : SS} (hp : p ≤ n) (hm : okm s) : pG n p s (pItem1 t n p s) := by
  unfold pItem1
  split
  · exact pG_mono (pEntry_G (tkp_le hp (by decide)) hm) (tkp_ge hp)
  · exact pG_mono (pNum_G (tkp_le hp (by decide)) hm) (tkp_ge hp)
theorem pItem_G {t : SS} {n p : Nat} {s : SS} (hp : p ≤ n) (hm : okm s) : pG n p s (pItem t n p s) := by
  unfold pItem
  split
  · exact pG_mono (pEntry_G (tkp_le hp (by decide)) hm) (tkp_ge hp)
  · exact pG_mono (pItem1_G (tkp_le hp (by decide)) hm) (tkp_ge hp)
theorem pAll_end {t : SS} {n : Nat} {s : SS} {p : Nat} (h : ¬ skp t n p < n) (f : Nat) : pAll t n f p s = (1, 0, skp t n p, s) := by
  cases f with
  | zero => rfl
  | succ f => show (if skp t n p < n then _ else _) = _; rw [if_neg h]
