/-! THE CLASS: what its reader reads is what the check reads -/
theorem ffa_a {f w : Int32} (h : ¬ f < 0) : ffa f w = f := if_neg h
theorem ffa_n {f w : Int32} (h : f < 0) : ffa f w = w := if_pos h
theorem xEf_a {t : SS} {n p : Nat} {c f : Int32} (h : ¬ f < 0) : xEf t n c p f = f := by
  unfold xEf
  by_cases k : tkk t n c p
  · rw [if_pos k]
  · rw [if_neg k, ffa_a h]
theorem xNf_a {t : SS} {n p : Nat} {lo hi f : Int32} (h : ¬ f < 0) : xNf t n lo hi p f = f := by
  unfold xNf
  by_cases k : rdok t n lo hi (skp t n p)
  · rw [if_pos k]
  · rw [if_neg k, ffa_a h]
theorem xEf_neg {t : SS} {n p : Nat} {c f : Int32} (h : xEf t n c p f < 0) : f < 0 := Classical.byContradiction (fun z => z (by rw [xEf_a z] at h; exact h))
theorem xNf_neg {t : SS} {n p : Nat} {lo hi f : Int32} (h : xNf t n lo hi p f < 0) : f < 0 := Classical.byContradiction (fun z => z (by rw [xNf_a z] at h; exact h))
theorem xNf_ok {t : SS} {n p : Nat} {lo hi f : Int32} (hp : p ≤ n) (hn : n ≤ 140) (h : xNf t n lo hi p f < 0) : rdok t n lo hi (skp t n p) := Classical.byContradiction (fun k => by
  have h1 := skp_le' (t := t) hp
  unfold xNf at h; rw [if_neg k] at h
  exact ffa_nn (by omega) h)
theorem xEf_k {t : SS} {n p : Nat} {c f : Int32} (k : tkk t n c p) : xEf t n c p f = f := if_pos k
theorem xEf_n {t : SS} {n p : Nat} {c f : Int32} (h : f < 0) (k : ¬ tkk t n c p) : xEf t n c p f = nI (skp t n p) := by unfold xEf; rw [if_neg k, ffa_n h]
theorem xNf_k {t : SS} {n p : Nat} {lo hi f : Int32} (k : rdok t n lo hi (skp t n p)) : xNf t n lo hi p f = f := if_pos k
theorem xNf_n {t : SS} {n p : Nat} {lo hi f : Int32} (h : f < 0) (k : ¬ rdok t n lo hi (skp t n p)) : xNf t n lo hi p f = nI (skp t n p) := by unfold xNf; rw [if_neg k, ffa_n h]
theorem tkp_k {t : SS} {n p : Nat} {c : Int32} (k : tkk t n c p) : tkp t n c p = skp t n p + 1 := if_pos k
theorem tkp_n {t : SS} {n p : Nat} {c : Int32} (k : ¬ tkk t n c p) : tkp t n c p = skp t n p := if_neg k
theorem rdp_k {t : SS} {n p : Nat} {lo hi : Int32} (k : rdok t n lo hi (skp t n p)) : rdp t n lo hi p = xNp t n p := if_pos k
theorem rdp_n {t : SS} {n p : Nat} {lo hi : Int32} (k : ¬ rdok t n lo hi (skp t n p)) : rdp t n lo hi p = skp t n p := if_neg k
theorem rdc_k {t : SS} {n p : Nat} {lo hi : Int32} (hh : hi.toInt < 10000) (k : rdok t n lo hi (skp t n p)) : rdc t n p = rdv t n p := by
  unfold rdc
  refine if_neg (fun z => ?_)
  have h2 := k.2.2
  have h3 : ¬ bin (rdv t n p) lo hi = 0 := h2
  unfold bin at h3
  by_cases y : lo ≤ rdv t n p ∧ rdv t n p ≤ hi
  · have y1 := Int32.le_iff_toInt_le.mp y.2
    have y2 := Int32.lt_iff_toInt_lt.mp z
    rw [show (10000 : Int32).toInt = 10000 by decide] at y2
    omega
  · rw [if_neg y] at h3; exact h3 rfl
theorem skp_end {t : SS} {n : Nat} : ∀ m p, p + m = n → ¬ (skp t n p < n ∧ t (skp t n p) = 32)
  | 0, p, h => by rw [skp_n (by omega)]; omega
  | m + 1, p, h => by
    by_cases c : p < n ∧ t p = 32
    · rw [skp_s c.1 c.2]; exact skp_end m (p + 1) (by omega)
    · rw [skp_n c]; exact c
theorem skp_id {t : SS} {n p : Nat} (h : p ≤ n) : skp t n (skp t n p) = skp t n p := skp_n (skp_end (n - p) p (by omega))
/-- the class read the same -/
def rEQ (r : PR) (x : CX) (f : Int32) : Prop := (r.1 = 0 → x.2.1 = nI r.2.1) ∧ (¬ r.1 = 0 → x = (r.2.1, f, r.2.2))
theorem rEQ_no {p : Nat} {s : SS} {x : CX} {f : Int32} (h : x.2.1 = nI p) : rEQ (0, p, s) x f := ⟨fun _ => h, fun z => absurd rfl z⟩
theorem cTail_f {t s : SS} {n p c : Nat} {k l x y f : Int32} (h : ¬ f < 0) : (cTail t n c k l x y p f s).2.1 = f := xEf_a h
theorem cRes_f {t s : SS} {n p c : Nat} {f : Int32} (h : ¬ f < 0) : (cRes t n c p f s).2.1 = f := by
  show xEf _ _ _ _ _ = f
  rw [xNf_a h, xEf_a h]
theorem cEntB_f {t s : SS} {n p : Nat} {pl f : Int32} (h : ¬ f < 0) : (cEntB t n pl p f s).2.1 = f := by
  show xEf _ _ _ _ _ = f
  rw [xEf_a h, xNf_a h, xEf_a h]
theorem cEnt_f {t s : SS} {n p : Nat} {pl f : Int32} (h : ¬ f < 0) : (cEnt t n pl p f s).2.1 = f := by
  unfold cEnt
  by_cases c : s 43 < 16
  · rw [if_pos c]; exact cEntB_f h
  · rw [if_neg c, ffa_a h]; exact cEntB_f h
theorem cSrc_f1 {t s : SS} {n p c : Nat} {f : Int32} (h : ¬ xNf t n 0 4095 p f < 0) : (cSrc t n c p f s).2.1 = xNf t n 0 4095 p f := by
  unfold cSrc
  by_cases c1 : chr t n (skp t n (xNp t n p)) = 43
  · rw [if_pos c1, xNf_a h]; exact cTail_f h
  rw [if_neg c1]
  by_cases c2 : chr t n (skp t n (xNp t n p)) = 45
  · rw [if_pos c2, xNf_a h]; exact cTail_f h
  rw [if_neg c2]
  by_cases c3 : chr t n (skp t n (xNp t n p)) = 44
  · rw [if_pos c3, xNf_a h, xEf_a h, xNf_a h]; exact cTail_f h
  rw [if_neg c3]; exact cTail_f h
theorem cSrc_f {t s : SS} {n p c : Nat} {f : Int32} (h : ¬ f < 0) : (cSrc t n c p f s).2.1 = f := by
  have e := xNf_a (t := t) (n := n) (p := p) (lo := 0) (hi := 4095) h
  have := cSrc_f1 (t := t) (s := s) (n := n) (p := p) (c := c) (f := f) (by rw [e]; exact h)
  rw [this, e]
theorem end_EQ {t s : SS} {n p c : Nat} {k l x y f : Int32} (hf : f < 0) : rEQ (pEnd t n p (pso s c k l x y)) (cTail t n c k l x y p f s) f := by
  unfold cTail pEnd
  by_cases h : tkk t n 59 p
  · rw [show tkv t n 59 p = 1 from if_pos h, xEf_k h, if_pos hf]
    exact ⟨fun z => absurd z (show ¬ (1 : Int32) = 0 by decide), fun _ => rfl⟩
  · rw [show tkv t n 59 p = 0 from if_neg h, xEf_n hf h, tkp_n h]
    exact rEQ_no rfl
theorem nI_ge0 {w : Nat} (h : w < 2 ^ 31) : ¬ nI w < 0 := Int32.not_lt.mpr (nI_le (a := 0) (Nat.zero_le w) h)
theorem res_EQ {t s : SS} {n p c : Nat} {f : Int32} (hp : p ≤ n) (hn : n ≤ 140) (hf : f < 0) : rEQ (pRes t n c p s) (cRes t n c p f s) f := by
  have h1 := skp_le' (t := t) hp
  unfold pRes
  by_cases k : rdok t n 0 31 (skp t n p)
  · rw [if_pos k, rdp_k k]
    unfold cRes pEnd
    rw [xNf_k k, rdc_k (by decide) k]
    by_cases h : tkk t n 59 (xNp t n p)
    · rw [show tkv t n 59 (xNp t n p) = 1 from if_pos h, xEf_k h, if_pos hf]
      exact ⟨fun z => absurd z (show ¬ (1 : Int32) = 0 by decide), fun _ => rfl⟩
    · rw [show tkv t n 59 (xNp t n p) = 0 from if_neg h, xEf_n hf h, tkp_n h]
      exact rEQ_no rfl
  · rw [if_neg k, rdp_n k]
    refine rEQ_no ?_
    show xEf _ _ _ _ (xNf t n 0 31 p f) = _
    rw [xNf_n hf k, xEf_a (nI_ge0 (by omega))]
theorem ris_EQ {t s : SS} {n p c : Nat} {l sg f : Int32} (hp : p ≤ n) (hn : n ≤ 140) (hf : f < 0) : rEQ (pRis t n c l sg p s) (cTail t n c 1 l (sg * rdc t n p) 0 (xNp t n p) (xNf t n 0 64 p f) s) f := by
  have h1 := skp_le' (t := t) hp
  unfold pRis
  by_cases k : rdok t n 0 64 (skp t n p)
  · rw [if_pos k, rdp_k k, xNf_k k, rdc_k (by decide) k]; exact end_EQ hf
  · rw [if_neg k, rdp_n k]
    refine rEQ_no ?_
    rw [xNf_n hf k]; exact cTail_f (nI_ge0 (by omega))
theorem jmp_EQ {t s : SS} {n p c : Nat} {l f : Int32} (hp : p ≤ n) (hn : n ≤ 140) (hf : f < 0) : rEQ (pJmp t n c l p s) (cTail t n c 2 l (rdc t n p) (rdc t n (tkp t n 47 (xNp t n p))) (xNp t n (tkp t n 47 (xNp t n p))) (xNf t n 2 200 (tkp t n 47 (xNp t n p)) (xEf t n 47 (xNp t n p) (xNf t n 0 4095 p f))) s) f := by
  have h1 := skp_le' (t := t) hp
  have h2 := xNp_le (t := t) hp
  have h3 := skp_le' (t := t) h2
  have h4 := tkp_le (t := t) (c := 47) h2 (by decide)
  have h5 := skp_le' (t := t) h4
  unfold pJmp
  by_cases k : rdok t n 0 4095 (skp t n p)
  · rw [if_pos k, rdp_k k, xNf_k k, rdc_k (by decide) k]
    unfold pJmp1
    by_cases k2 : tkk t n 47 (xNp t n p)
    · rw [if_pos k2, xEf_k k2]
      unfold pJmp2
      by_cases k3 : rdok t n 2 200 (skp t n (tkp t n 47 (xNp t n p)))
      · rw [if_pos k3, rdp_k k3, xNf_k k3, rdc_k (p := tkp t n 47 (xNp t n p)) (by decide) k3]; exact end_EQ hf
      · rw [if_neg k3, rdp_n k3]
        refine rEQ_no ?_
        rw [xNf_n hf k3]; exact cTail_f (nI_ge0 (by omega))
    · rw [if_neg k2]
      refine rEQ_no ?_
      rw [xEf_n hf k2, xNf_a (nI_ge0 (by omega)), tkp_n k2]; exact cTail_f (nI_ge0 (by omega))
  · rw [if_neg k, rdp_n k]
    refine rEQ_no ?_
    rw [xNf_n hf k, xEf_a (nI_ge0 (by omega)), xNf_a (nI_ge0 (by omega))]; exact cTail_f (nI_ge0 (by omega))
theorem src_EQ {t s : SS} {n p c : Nat} {f : Int32} (hp : p ≤ n) (hn : n ≤ 140) (hf : f < 0) : rEQ (pSrc t n c p s) (cSrc t n c p f s) f := by
  have h1 := skp_le' (t := t) hp
  have h2 := xNp_le (t := t) hp
  have h3 := skp_le' (t := t) h2
  have hid := skp_id (t := t) h2
  have hch : ∀ v : Int32, ¬ (0 : Int32) = v → ¬ (-1 : Int32) = v → (chr t n (skp t n (xNp t n p)) = v ↔ tkk t n v (xNp t n p)) := fun v a b => chr_sgn a b
  have hch2 : ∀ v : Int32, ¬ (0 : Int32) = v → ¬ (-1 : Int32) = v → (chr t n (skp t n (xNp t n p)) = v ↔ tkk t n v (skp t n (xNp t n p))) := fun v a b => (chr_sgn a b).trans (by unfold tkk; rw [hid])
  unfold pSrc
  by_cases k : rdok t n 0 4095 (skp t n p)
  · rw [if_pos k, rdp_k k]
    unfold cSrc
    rw [xNf_k k, rdc_k (p := p) (by decide) k]
    unfold pSrc1
    by_cases k1 : tkk t n 43 (xNp t n p)
    · rw [if_pos k1, if_pos ((hch 43 (by decide) (by decide)).mpr k1), tkp_k k1]
      have hl : skp t n (xNp t n p) + 1 ≤ n := sgn_lt k1 (by decide)
      have := ris_EQ (t := t) (s := s) (c := c) (l := rdv t n p) (sg := 1) hl hn hf
      rw [Int32.one_mul] at this
      exact this
    · rw [if_neg k1, if_neg (fun z => k1 ((hch 43 (by decide) (by decide)).mp z)), tkp_n k1]
      unfold pSrc2
      by_cases k2 : tkk t n 45 (skp t n (xNp t n p))
      · rw [if_pos k2, if_pos ((hch2 45 (by decide) (by decide)).mpr k2), tkp_k k2, hid]
        have hl : skp t n (xNp t n p) + 1 ≤ n := by have := sgn_lt k2 (by decide); rw [hid] at this; exact this
        have := ris_EQ (t := t) (s := s) (c := c) (l := rdv t n p) (sg := -1) hl hn hf
        rw [Int32.neg_mul, Int32.one_mul] at this
        exact this
      · rw [if_neg k2, if_neg (fun z => k2 ((hch2 45 (by decide) (by decide)).mp z)), tkp_n k2, hid]
        unfold pSrc3
        by_cases k3 : tkk t n 44 (skp t n (xNp t n p))
        · rw [if_pos k3, if_pos ((hch2 44 (by decide) (by decide)).mpr k3), tkp_k k3, hid]
          have hl : skp t n (xNp t n p) + 1 ≤ n := by have := sgn_lt k3 (by decide); rw [hid] at this; exact this
          exact jmp_EQ hl hn hf
        · rw [if_neg k3, if_neg (fun z => k3 ((hch2 44 (by decide) (by decide)).mp z)), tkp_n k3, hid]
          exact end_EQ hf
  · rw [if_neg k, rdp_n k]
    refine rEQ_no ?_
    have e := xNf_n (t := t) (n := n) (p := p) (lo := 0) (hi := 4095) hf k
    rw [cSrc_f1 (by rw [e]; exact nI_ge0 (by omega)), e]
theorem ent_EQ {t s : SS} {n p : Nat} {pl f : Int32} (hp : p ≤ n) (hn : n ≤ 140) (hm : okm s) (hf : f < 0) : rEQ (pEntry t n pl p s) (cEnt t n pl p f s) f := by
  have h1 := skp_le' (t := t) hp
  obtain ⟨m1, m2⟩ := okm_n hm
  unfold pEntry cEnt
  by_cases c : s 43 < 16
  · have hne : ¬ s 43 = 16 := fun z => by rw [z] at c; exact absurd c (by decide)
    rw [if_pos c]
    by_cases k : tkk t n 58 p
    · rw [if_neg (fun z => z.elim (fun y => y k) hne)]
      have hl : skp t n p + 1 ≤ n := sgn_lt k (by decide)
      have h2 := xNp_le (t := t) hl
      have h3 := skp_le' (t := t) h2
      have h4 := skp_le' (t := t) hl
      unfold cEntB pEnt1
      rw [tkp_k k, xEf_k k]
      by_cases k2 : rdok t n 0 7 (skp t n (skp t n p + 1))
      · rw [if_pos k2, rdp_k k2, xNf_k k2, rdc_k (p := skp t n p + 1) (by decide) k2]
        unfold pEnt2
        by_cases k3 : tkk t n 59 (xNp t n (skp t n p + 1))
        · rw [if_pos k3, xEf_k k3, if_pos hf]
          exact ⟨fun z => absurd z (show ¬ (1 : Int32) = 0 by decide), fun _ => rfl⟩
        · rw [if_neg k3, xEf_n hf k3, tkp_n k3]
          exact rEQ_no rfl
      · rw [if_neg k2, rdp_n k2]
        refine rEQ_no ?_
        show xEf _ _ _ _ (xNf t n 0 7 (skp t n p + 1) f) = _
        rw [xNf_n hf k2, xEf_a (nI_ge0 (by omega))]
    · rw [if_pos (Or.inl k)]
      refine rEQ_no ?_
      show xEf _ _ _ _ (xNf t n 0 7 _ (xEf t n 58 p f)) = _
      rw [xEf_n hf k, xNf_a (nI_ge0 (by omega)), xEf_a (nI_ge0 (by omega))]
  · have he : s 43 = 16 := by
      rw [m1] at c ⊢
      have : 16 ≤ nn (s 43) := Nat.not_lt.mp (fun z => c (nI_lt (b := 16) z (by decide)))
      rw [show nn (s 43) = 16 by omega]; rfl
    rw [if_neg c, if_pos (Or.inr he)]
    refine rEQ_no ?_
    rw [ffa_n hf]
    exact cEntB_f (nI_ge0 (by omega))
theorem item_EQ {t s : SS} {n p : Nat} {f : Int32} (hp : p ≤ n) (hn : n ≤ 140) (hx : okX t n) (hm : okm s) (hf : f < 0) : rEQ (pItem t n p s) (cItem t n p f s) f := by
  have h1 := skp_le' (t := t) hp
  have hid := skp_id (t := t) hp
  have hch : ∀ v : Int32, ¬ (0 : Int32) = v → ¬ (-1 : Int32) = v → (chr t n (skp t n p) = v ↔ tkk t n v p) := fun v a b => chr_sgn a b
  have hch2 : ∀ v : Int32, ¬ (0 : Int32) = v → ¬ (-1 : Int32) = v → (chr t n (skp t n p) = v ↔ tkk t n v (skp t n p)) := fun v a b => (chr_sgn a b).trans (by unfold tkk; rw [hid])
  unfold pItem cItem
  by_cases k1 : tkk t n 103 p
  · rw [if_pos k1, if_pos ((hch 103 (by decide) (by decide)).mpr k1), tkp_k k1]
    exact ent_EQ (sgn_lt k1 (by decide)) hn hm hf
  rw [if_neg k1, if_neg (fun z => k1 ((hch 103 (by decide) (by decide)).mp z)), tkp_n k1]
  unfold pItem1
  by_cases k2 : tkk t n 102 (skp t n p)
  · rw [if_pos k2, if_pos ((hch2 102 (by decide) (by decide)).mpr k2), tkp_k k2, hid]
    exact ent_EQ (by have := sgn_lt k2 (by decide); rw [hid] at this; exact this) hn hm hf
  rw [if_neg k2, if_neg (fun z => k2 ((hch2 102 (by decide) (by decide)).mp z)), tkp_n k2, hid]
  unfold pNum
  have h2 := xNp_le (t := t) h1.1
  have h3 := skp_le' (t := t) h2
  have hid2 := skp_id (t := t) h2
  by_cases k : rdok t n 0 7 (skp t n (skp t n p))
  · have hk' := k
    rw [if_pos k, rdp_k k, xNf_k k, rdc_k (p := skp t n p) (by decide) k]
    have gch : ∀ v : Int32, ¬ (0 : Int32) = v → ¬ (-1 : Int32) = v → (chr t n (skp t n (xNp t n (skp t n p))) = v ↔ tkk t n v (xNp t n (skp t n p))) := fun v a b => chr_sgn a b
    have gch2 : ∀ v : Int32, ¬ (0 : Int32) = v → ¬ (-1 : Int32) = v → (chr t n (skp t n (xNp t n (skp t n p))) = v ↔ tkk t n v (skp t n (xNp t n (skp t n p)))) := fun v a b => (chr_sgn a b).trans (by unfold tkk; rw [hid2])
    unfold pItem2
    by_cases j1 : tkk t n 61 (xNp t n (skp t n p))
    · have e61 := (gch 61 (by decide) (by decide)).mpr j1
      rw [if_pos j1, if_neg (by rw [e61]; decide), if_pos e61, tkp_k j1]
      exact src_EQ (sgn_lt j1 (by decide)) hn hf
    rw [if_neg j1, tkp_n j1]
    unfold pItem3
    by_cases j2 : tkk t n 114 (skp t n (xNp t n (skp t n p)))
    · have e114 := (gch2 114 (by decide) (by decide)).mpr j2
      rw [if_pos j2, if_neg (by rw [e114]; decide), if_neg (by rw [e114]; decide), if_pos e114, tkp_k j2, hid2]
      exact res_EQ (by have := sgn_lt j2 (by decide); rw [hid2] at this; exact this) hn hf
    rw [if_neg j2, tkp_n j2, hid2]
    by_cases j3 : tkk t n 58 (skp t n (xNp t n (skp t n p)))
    · rw [if_pos ((gch2 58 (by decide) (by decide)).mpr j3)]
      exact ent_EQ h3.1 hn hm hf
    · rw [if_neg (fun z => j3 ((gch2 58 (by decide) (by decide)).mp z)), if_neg (fun z => j1 ((gch 61 (by decide) (by decide)).mp z)), if_neg (fun z => j2 ((gch2 114 (by decide) (by decide)).mp z))]
      unfold pEntry
      rw [if_pos (Or.inl j3), hid2]
      exact rEQ_no (ffa_n hf)
  · rw [if_neg k, rdp_n k]
    refine rEQ_no ?_
    have e := xNf_n (t := t) (n := n) (p := skp t n p) (lo := 0) (hi := 7) hf k
    have hw : ¬ xNf t n 0 7 (skp t n p) f < 0 := by rw [e]; exact nI_ge0 (by rw [hid]; omega)
    by_cases j1 : chr t n (skp t n (xNp t n (skp t n p))) = 58
    · rw [if_pos j1, cEnt_f hw]; exact e
    rw [if_neg j1]
    by_cases j2 : chr t n (skp t n (xNp t n (skp t n p))) = 61
    · rw [if_pos j2, cSrc_f hw]; exact e
    rw [if_neg j2]
    by_cases j3 : chr t n (skp t n (xNp t n (skp t n p))) = 114
    · rw [if_pos j3, cRes_f hw]; exact e
    rw [if_neg j3]
    show ffa _ _ = _
    rw [ffa_a hw]; exact e
theorem pAll_le {t : SS} {n : Nat} : ∀ f p s, p ≤ n → okm s → (pAll t n f p s).2.2.1 ≤ n
  | 0, p, s, hp, _ => (skp_le' (t := t) hp).1
  | f + 1, p, s, hp, hm => by
    by_cases hq : skp t n p < n
    · have hG := pItem_G (t := t) (n := n) (p := skp t n p) (s := s) (Nat.le_of_lt hq) hm
      show (if skp t n p < n then _ else _ : Int32 × Nat × Nat × SS).2.2.1 ≤ n
      rw [if_pos hq]
      by_cases hr : (pItem t n (skp t n p) s).1 = 0
      · rw [if_pos hr]; exact hG.1
      · rw [if_neg hr]; exact pAll_le f _ _ hG.1 hG.2.2.2
    · rw [pAll_end hq]; exact (skp_le' (t := t) hp).1
theorem pTxt_lt {A : AS} (hO : OK A) : (pTxt A).2.2.1 < 2 ^ 31 := by
  have := pAll_le (t := a_t A) (n := a_n A) (a_n A) 0 (a_s A) (Nat.zero_le _) hO.m
  have h2 := hO.2.2.2.1
  show (pAll (a_t A) (a_n A) (a_n A) 0 (a_s A)).2.2.1 < 2 ^ 31
  omega
