/-! MORE WORDS: what does not change a place's values; settles tried, grounds counted, scans -/
abbrev lo43 (s s' : SS) : Prop := ∀ j, j < 43 → s' j = s j
theorem l3_cvl {s s' : SS} (h : lo43 s s') {c : Nat} (hc : c < 8) (t : Int32) : cvl s' c t = cvl s c t := by
  unfold cvl; rw [h (5 * c) (by omega), h (5 * c + 1) (by omega), h (5 * c + 2) (by omega), h (5 * c + 3) (by omega)]
theorem l3_pvl {s s' : SS} (h : lo43 s s') {p : Nat} (hp : p ≤ 9) (t : Int32) : pvl s' p t = pvl s p t := by
  unfold pvl
  by_cases h8 : p = 8
  · rw [if_pos h8, if_pos h8]
  · by_cases h9 : p = 9
    · rw [if_neg h8, if_pos h9, if_neg h8, if_pos h9, h 40 (by decide)]
    · rw [if_neg h8, if_neg h9, if_neg h8, if_neg h9, l3_cvl h (by omega)]
theorem l3_rsl {s s' : SS} (h : lo43 s s') (p : Nat) : rsl s' p = rsl s p := by
  unfold rsl
  by_cases h8 : p < 8
  · rw [if_pos h8, if_pos h8, h _ (by omega)]
  · rw [if_neg h8, if_neg h8]
theorem l3_slt {s s' : SS} (h : lo43 s s') {p : Nat} (hp : p ≤ 9) (t : Int32) (x : UInt32) : slt s' p t x = slt s p t x := by
  unfold slt; rw [l3_rsl h, l3_pvl h hp]
theorem l3_cos {s s' : SS} (h : lo43 s s') {p : Nat} (hp : p ≤ 9) (t : Nat) (x : UInt32) : ∀ n, cos s' p n t x = cos s p n t x
  | 0 => rfl
  | n + 1 => by
    show slt s' p (nI (t + n)) (cos s' p n t x) = slt s p (nI (t + n)) (cos s p n t x)
    rw [l3_cos h hp t x n, l3_slt h hp]
theorem l3_xh {s s' : SS} (h : lo43 s s') {p : Nat} (hp : p ≤ 9) (q t : Nat) (x : UInt32) : xh s' p q t x = xh s p q t x := l3_cos h hp t x (q + 1)
theorem l3_xr {s s' : SS} (h : lo43 s s') {p : Nat} (hp : p ≤ 9) (q t : Nat) (x : UInt32) : xr s' p q t x = xr s p q t x := by
  unfold xr; rw [l3_xh h hp, h 41 (by decide), h 42 (by decide)]
theorem l3_xc {s s' : SS} (h : lo43 s s') {p : Nat} (hp : p ≤ 9) (q t : Nat) (x : UInt32) : xc s' p q t x = xc s p q t x := by
  unfold xc; rw [l3_xr h hp, l3_cos h hp, h 41 (by decide), h 42 (by decide)]
theorem l3_xe {s s' : SS} (h : lo43 s s') {p : Nat} (hp : p ≤ 9) (q t : Nat) (x : UInt32) : xe s' p q t x = xe s p q t x := by
  unfold xe; rw [l3_xr h hp, l3_pvl h hp]
/-- lists that begin alike -/
theorem l3_et {s s' : SS} {x : Nat} (t0 : Nat) (hl : ∀ i, i < x → s' (45 + 2 * i) = s (45 + 2 * i)) : ∀ i, i ≤ x → et s' t0 i = et s t0 i
  | 0, _ => rfl
  | i + 1, hi => by
    show et s' t0 i + (qn s' i + 1) = et s t0 i + (qn s i + 1)
    rw [l3_et t0 hl i (by omega), show qn s' i = qn s i by unfold qn; rw [hl i (by omega)]]
theorem l3_eh {s s' : SS} (h : lo43 s s') {x : Nat} (t0 : Nat) (h0 : UInt32) (hp : ∀ i, i < x → pn s i ≤ 9) (hl : ∀ i, i < x → s' (44 + 2 * i) = s (44 + 2 * i) ∧ s' (45 + 2 * i) = s (45 + 2 * i)) : ∀ i, i ≤ x → eh s' t0 h0 i = eh s t0 h0 i
  | 0, _ => rfl
  | i + 1, hi => by
    show xh s' (pn s' i) (qn s' i) (et s' t0 i) (eh s' t0 h0 i) = xh s (pn s i) (qn s i) (et s t0 i) (eh s t0 h0 i)
    rw [l3_eh h t0 h0 hp hl i (by omega), l3_et t0 (fun i hi => (hl i hi).2) i (by omega), show qn s' i = qn s i by unfold qn; rw [(hl i (by omega)).2], show pn s' i = pn s i by unfold pn; rw [(hl i (by omega)).1], l3_xh h (hp i (by omega))]
/-- the least settle of the first that errs by no more than lim -/
def stl (s : SS) (t : Nat) (h : UInt32) (p : Nat) (lim : Int32) : Nat → Int32
  | 0 => -10000009
  | q + 1 => if stl s t h p lim q = -10000009 then (if siz (xe s p q t h) ≤ lim then nI q else -10000009) else stl s t h p lim q
def vSettle (A : AS) (e lim : Int32) : Int32 := if bin e 0 (a_s A 43 - 1) = 0 ∨ bin lim 0 4095 = 0 then eI else stl (a_s A) (et (a_s A) (nn (a_s A 76)) (nn e)) (eh (a_s A) (nn (a_s A 76)) (a_h A) (nn e)) (pn (a_s A) (nn e)) lim 8
/-- grounds put in where something was carried: the time, the charge, how many -/
def gns (s : SS) (t0 : Nat) (h0 : UInt32) : Nat → Nat × UInt32 × Int32
  | 0 => (t0, h0, 0)
  | i + 1 => if xc s (pn s i) (qn s i) (gns s t0 h0 i).1 (gns s t0 h0 i).2.1 = 0 then ((gns s t0 h0 i).1 + (qn s i + 1), xh s (pn s i) (qn s i) (gns s t0 h0 i).1 (gns s t0 h0 i).2.1, (gns s t0 h0 i).2.2)
    else ((gns s t0 h0 i).1 + 1 + (qn s i + 1), xh s (pn s i) (qn s i) ((gns s t0 h0 i).1 + 1) (slt s 8 (nI (gns s t0 h0 i).1) (gns s t0 h0 i).2.1), (gns s t0 h0 i).2.2 + 1)
def vGrounds (A : AS) : Int32 := (gns (a_s A) (nn (a_s A 76)) (a_h A) (nn (a_s A 43))).2.2
theorem gns_le {s : SS} {n t0 : Nat} {h0 : UInt32} (h : okL s n) : ∀ i, i ≤ n → (gns s t0 h0 i).1 ≤ t0 + 9 * i
  | 0, _ => Nat.le_refl _
  | i + 1, hi => by
    have h1 := gns_le (t0 := t0) (h0 := h0) h i (by omega)
    have h2 := (okL_q h (show i < n by omega)).2
    unfold gns
    split
    · show (gns s t0 h0 i).1 + (qn s i + 1) ≤ _; omega
    · show (gns s t0 h0 i).1 + 1 + (qn s i + 1) ≤ _; omega
/-- a reading noted, piece by piece -/
def n5 (s : SS) (c : Int32) : SS := sU s 93 (s 93 + siz c)
def n4 (s : SS) (c : Int32) : SS := n5 (sU s 92 (s 92 + 1)) c
def nai (p : Nat) : Nat := if p < 8 then 88 else 81 + p
def n3 (s : SS) (p q : Nat) (c : Int32) : SS := n4 (sU s (nai p) (s (nai p) + (nI q + 1))) c
def n2 (s : SS) (p q : Nat) (r c : Int32) : SS := n3 (sU s (78 + p) r) p q c
def n1 (s : SS) (cnt p q : Nat) (r c : Int32) : SS := n2 (sU s 77 (nI (cnt + 1))) p q r c
def n0 (s : SS) (cnt p : Nat) (tm r c e : Int32) : SS := sU (sU (sU (sU (sU s (94 + 5 * cnt) (nI p)) (95 + 5 * cnt) tm) (96 + 5 * cnt) r) (97 + 5 * cnt) c) (98 + 5 * cnt) e
theorem nt0_eq (s : SS) (cnt p q : Nat) (tm r c e : Int32) : n1 (n0 s cnt p tm r c e) cnt p q r c = nt0 s cnt p q tm r c e := rfl
def lsf (s : SS) (k : Nat) : SS := fun j => if 94 ≤ j ∧ j < k then s (j + 5) else s j
theorem lsf_0 (s : SS) : lsf s 94 = s := by funext j; unfold lsf; rw [if_neg (by omega)]
theorem lsf_s (s : SS) (k : Nat) (h : 94 ≤ k) : sU (lsf s k) k (s (k + 5)) = lsf s (k + 1) := by
  funext j
  unfold sU lsf
  by_cases h1 : j = k
  · subst h1; rw [if_pos rfl, if_pos (by omega)]
  · rw [if_neg h1]
    by_cases h3 : 94 ≤ j ∧ j < k
    · rw [if_pos h3, if_pos (by omega)]
    · rw [if_neg h3, if_neg (by omega)]
theorem lsf_hi {s : SS} {k j : Nat} (h : k ≤ j) : lsf s k j = s j := by unfold lsf; rw [if_neg (by omega)]
theorem lsf_e (s : SS) : sU (lsf s 249) 77 31 = lsh s := by
  funext j
  unfold sU lsf lsh
  by_cases h1 : j = 77
  · subst h1; rw [if_pos rfl, if_neg (by omega), if_pos rfl]
  · rw [if_neg h1]
    by_cases h3 : 94 ≤ j ∧ j < 249
    · rw [if_pos h3, if_pos h3]
    · rw [if_neg h3, if_neg h3, if_neg h1]
theorem ix_l (c : Nat) : (94 : Int32) + 5 * nI c = nI (94 + 5 * c) := by rw [show (5 : Int32) = nI 5 from rfl, show (94 : Int32) = nI 94 from rfl, pk_mul, nI_add]
/-- an entry scanned; the first entries; scans -/
abbrev SC : Type := SS × Nat × UInt32
def scE (i : Nat) (S : SC) : SC := (ntS S.1 (nn (S.1 77)) (pn S.1 i) (qn S.1 i) (nI (S.2.1 + qn S.1 i)) (xr S.1 (pn S.1 i) (qn S.1 i) S.2.1 S.2.2) (xc S.1 (pn S.1 i) (qn S.1 i) S.2.1 S.2.2) (xe S.1 (pn S.1 i) (qn S.1 i) S.2.1 S.2.2), S.2.1 + (qn S.1 i + 1), xh S.1 (pn S.1 i) (qn S.1 i) S.2.1 S.2.2)
def scL : Nat → SC → SC
  | 0, S => S
  | i + 1, S => scE i (scL i S)
def scR (n : Nat) : Nat → SC → SC
  | 0, S => S
  | k + 1, S => scL n (scR n k S)
def opScan (A : AS) (k : Int32) : Int32 × AS := if bin k 1 20 = 0 then (eI, A) else if a_s A 43 = 0 then (eS, A) else if 9999 < a_s A 76 + k * sls (a_s A) (nn (a_s A 43)) then (eC, A) else
  ((scR (nn (a_s A 43)) (nn k) (a_s A, nn (a_s A 76), a_h A)).1 93 - a_s A 93, rec A (sU (scR (nn (a_s A 43)) (nn k) (a_s A, nn (a_s A 76), a_h A)).1 76 (nI (scR (nn (a_s A 43)) (nn k) (a_s A, nn (a_s A 76), a_h A)).2.1)) (scR (nn (a_s A 43)) (nn k) (a_s A, nn (a_s A 76), a_h A)).2.2)
/-- what a scan leaves as it is -/
abbrev sin (s s' : SS) : Prop := ∀ j, j < 76 → s' j = s j
theorem ntS_in {s : SS} {cnt p q : Nat} {tm r c e : Int32} (hc : cnt ≤ 32) : sin s (ntS s cnt p q tm r c e) := by
  intro j hj
  have hai : (if p < 8 then 88 else 81 + p) ≠ j := by split <;> omega
  have h0 : ∀ (s : SS) (cnt : Nat), nt0 s cnt p q tm r c e j = s j := by
    intro s cnt
    unfold nt0
    rw [sU_ne _ _ (by omega), sU_ne _ _ (by omega), sU_ne _ _ (Ne.symm hai), sU_ne _ _ (by omega), sU_ne _ _ (by omega), sU_ne _ _ (by omega), sU_ne _ _ (by omega), sU_ne _ _ (by omega), sU_ne _ _ (by omega), sU_ne _ _ (by omega)]
  unfold ntS
  split
  · rw [h0]; unfold lsh; rw [if_neg (by omega), if_neg (by omega)]
  · exact h0 s cnt
