/-! THE CLASS: readings are in their range; a reading noted in the log, in the state -/
theorem f2i_nn {x : UInt32} (h : ¬ FP.fcmp x FP.fconst0 = some .lt) : ¬ FP.f2i x < 0 := by
  have e0 : FP.Core.decode FP.Core.b32 (FP.fconst0).toNat = .fin false 0 (-149) := by decide +kernel
  have e1 : FP.fcmp x FP.fconst0 = FP.Core.order (FP.Core.decode FP.Core.b32 x.toNat) (.fin false 0 (-149)) := by rw [← e0]; rfl
  have e2 : FP.f2i x = Int32.ofInt (FP.Core.toInt (-2 ^ 31) (2 ^ 31 - 1) (FP.Core.decode FP.Core.b32 x.toNat)) := rfl
  rw [e1] at h
  rw [e2]
  generalize FP.Core.decode FP.Core.b32 x.toNat = D at h
  have key : 0 ≤ FP.Core.toInt (-2 ^ 31) (2 ^ 31 - 1) D ∧ FP.Core.toInt (-2 ^ 31) (2 ^ 31 - 1) D ≤ 2 ^ 31 - 1 := by
    cases D with
    | nan => exact ⟨by decide, by decide⟩
    | inf s => cases s with
      | false => exact ⟨by decide, by decide⟩
      | true => exact absurd (by decide +kernel) h
    | fin s c q => cases s with
      | false =>
        show 0 ≤ max _ (min _ (FP.Core.signed false (c * 2 ^ q.toNat / 2 ^ (-q).toNat))) ∧ max _ (min _ (FP.Core.signed false (c * 2 ^ q.toNat / 2 ^ (-q).toNat))) ≤ _
        generalize c * 2 ^ q.toNat / 2 ^ (-q).toNat = z
        show 0 ≤ max _ (min _ (z : Int)) ∧ max _ (min _ (z : Int)) ≤ _
        omega
      | true =>
        by_cases hc : c = 0
        · subst hc
          show 0 ≤ max _ (min _ (FP.Core.signed true (0 * 2 ^ q.toNat / 2 ^ (-q).toNat))) ∧ max _ (min _ (FP.Core.signed true (0 * 2 ^ q.toNat / 2 ^ (-q).toNat))) ≤ _
          rw [Nat.zero_mul, Nat.zero_div]
          exact ⟨by decide, by decide⟩
        · refine absurd ?_ h
          show some (compare (FP.Core.signed true (c * 2 ^ (q - min q (-149)).toNat)) (FP.Core.signed false (0 * 2 ^ ((-149) - min q (-149)).toNat))) = some .lt
          rw [Nat.zero_mul]
          have hp : 0 < 2 ^ (q - min q (-149)).toNat := Nat.pow_pos (by decide)
          have hz : 0 < c * 2 ^ (q - min q (-149)).toNat := Nat.mul_pos (by omega) hp
          generalize c * 2 ^ (q - min q (-149)).toNat = z at hz
          show some (compare (-(z : Int)) ((0 : Nat) : Int)) = some .lt
          rw [show compare (-(z : Int)) ((0 : Nat) : Int) = .lt from by
            show compareOfLessAndEq _ _ = _
            unfold compareOfLessAndEq
            rw [if_pos (by omega)]]
  intro hn
  have h1 := Int32.lt_iff_toInt_lt.mp hn
  rw [Int32.toInt_ofInt_of_le (by omega) (by omega), show (0 : Int32).toInt = 0 by decide] at h1
  omega
theorem rdb_ok (h : UInt32) (g o : Int32) : ∃ r : Nat, r ≤ 4095 ∧ rdb h g o = nI r := by
  unfold rdb
  by_cases c1 : 0 ≤ Op.cmpValue (FP.fcmp (rsum h g o) FP.fconst0) CmpOp.g
  · rw [if_pos c1]
    by_cases c2 : 4095 < FP.f2i (rsum h g o)
    · rw [if_pos c2]; exact ⟨4095, Nat.le_refl _, rfl⟩
    · rw [if_neg c2]
      have h1 : ¬ FP.fcmp (rsum h g o) FP.fconst0 = some .lt := fun e => by rw [e] at c1; exact absurd c1 (by decide)
      obtain ⟨r, hr, e⟩ := nI_of (f2i_nn h1)
      refine ⟨r, ?_, e⟩
      rw [e] at c2
      exact (nI_leI (b := 4095) hr (by decide)).mp (Int32.not_lt.mp c2)
  · rw [if_neg c1]; exact ⟨0, Nat.zero_le _, rfl⟩
theorem nI_nm {r : Nat} (h : r ≤ 4095) : ¬ nI r = -1 := fun e => by
  have := congrArg Int32.toInt e
  rw [nI_toInt (by omega), show (-1 : Int32).toInt = -1 by decide] at this
  omega
/-- a reading noted, place by place -/
def ntv (s : SS) (cnt p q : Nat) (tm r c e : Int32) (x : Nat) : Int32 := if x = 93 then s 93 + siz c else if x = 92 then s 92 + 1 else if x = nai p then s (nai p) + (nI q + 1) else if x = 78 + p then r else if x = 77 then nI (cnt + 1) else if x = 98 + 5 * cnt then e else if x = 97 + 5 * cnt then c else if x = 96 + 5 * cnt then r else if x = 95 + 5 * cnt then tm else if x = 94 + 5 * cnt then nI p else s x
theorem nai_3 (p : Nat) (hp : p ≤ 9) : nai p = 88 ∨ nai p = 89 ∨ nai p = 90 := by unfold nai; split <;> omega
theorem nt0_at {s : SS} {cnt p q : Nat} {tm r c e : Int32} (hp : p ≤ 9) (x : Nat) : nt0 s cnt p q tm r c e x = ntv s cnt p q tm r c e x := by
  have hn := nai_3 p hp
  rw [← nt0_eq]
  have e0 : ∀ y, y < 94 → n0 s cnt p tm r c e y = s y := fun y hy => by unfold n0; rw [sU_ne _ _ (by omega), sU_ne _ _ (by omega), sU_ne _ _ (by omega), sU_ne _ _ (by omega), sU_ne _ _ (by omega)]
  have eB : ∀ y, 87 < y → y < 94 → sU (sU (n0 s cnt p tm r c e) 77 (nI (cnt + 1))) (78 + p) r y = s y := fun y h1 h2 => by rw [sU_ne _ _ (by omega), sU_ne _ _ (by omega)]; exact e0 y h2
  show n5 (sU (sU (sU (sU (n0 s cnt p tm r c e) 77 (nI (cnt + 1))) (78 + p) r) (nai p) (sU (sU (n0 s cnt p tm r c e) 77 (nI (cnt + 1))) (78 + p) r (nai p) + (nI q + 1))) 92 (sU (sU (sU (n0 s cnt p tm r c e) 77 (nI (cnt + 1))) (78 + p) r) (nai p) (sU (sU (n0 s cnt p tm r c e) 77 (nI (cnt + 1))) (78 + p) r (nai p) + (nI q + 1)) 92 + 1)) c x = _
  rw [eB (nai p) (by omega) (by omega)]
  have eC : sU (sU (sU (n0 s cnt p tm r c e) 77 (nI (cnt + 1))) (78 + p) r) (nai p) (s (nai p) + (nI q + 1)) 92 = s 92 := by rw [sU_ne _ _ (by omega)]; exact eB 92 (by decide) (by decide)
  rw [eC]
  have eD : sU (sU (sU (sU (n0 s cnt p tm r c e) 77 (nI (cnt + 1))) (78 + p) r) (nai p) (s (nai p) + (nI q + 1))) 92 (s 92 + 1) 93 = s 93 := by rw [sU_ne _ _ (by omega), sU_ne _ _ (by omega)]; exact eB 93 (by decide) (by decide)
  show sU _ 93 (sU (sU (sU (sU (n0 s cnt p tm r c e) 77 (nI (cnt + 1))) (78 + p) r) (nai p) (s (nai p) + (nI q + 1))) 92 (s 92 + 1) 93 + siz c) x = _
  rw [eD]
  rfl
/-- how many the log keeps behind one more; how it noted -/
def lgn (cnt : Nat) : Nat := if cnt = 32 then 32 else cnt + 1
def lgk (cnt k : Nat) : Nat := if cnt = 32 then k + 1 else k
theorem ntS_77v {s : SS} {cnt p q : Nat} {tm r c e : Int32} (hp : p ≤ 9) : ntS s cnt p q tm r c e 77 = nI (lgn cnt) := by
  have hn := nai_3 p hp
  unfold ntS lgn
  by_cases h : cnt = 32
  · rw [if_pos h, if_pos h, nt0_at hp]; unfold ntv; rw [if_neg (by omega), if_neg (by omega), if_neg (by omega), if_neg (by omega), if_pos rfl]
  · rw [if_neg h, if_neg h, nt0_at hp]; unfold ntv; rw [if_neg (by omega), if_neg (by omega), if_neg (by omega), if_neg (by omega), if_pos rfl]
theorem ntS_old {s : SS} {cnt p q : Nat} {tm r c e : Int32} (hp : p ≤ 9) (hc : cnt ≤ 32) {k j : Nat} (hk : k + 1 < lgn cnt) (hj : j < 5) : ntS s cnt p q tm r c e (94 + 5 * k + j) = s (94 + 5 * lgk cnt k + j) := by
  have hn := nai_3 p hp
  unfold lgn at hk
  unfold ntS lgk
  by_cases h : cnt = 32
  · rw [if_pos h] at hk ⊢
    rw [if_pos h, nt0_at hp]; unfold ntv
    rw [if_neg (by omega), if_neg (by omega), if_neg (by omega), if_neg (by omega), if_neg (by omega), if_neg (by omega), if_neg (by omega), if_neg (by omega), if_neg (by omega), if_neg (by omega)]
    unfold lsh; rw [if_pos (by omega)]; exact congrArg s (by omega)
  · rw [if_neg h] at hk ⊢
    rw [if_neg h, nt0_at hp]; unfold ntv
    rw [if_neg (by omega), if_neg (by omega), if_neg (by omega), if_neg (by omega), if_neg (by omega), if_neg (by omega), if_neg (by omega), if_neg (by omega), if_neg (by omega), if_neg (by omega)]
theorem ntS_new {s : SS} {cnt p q : Nat} {tm r c e : Int32} (hp : p ≤ 9) : ntS s cnt p q tm r c e (94 + 5 * (lgn cnt - 1)) = nI p ∧ ntS s cnt p q tm r c e (94 + 5 * (lgn cnt - 1) + 1) = tm ∧ ntS s cnt p q tm r c e (94 + 5 * (lgn cnt - 1) + 2) = r ∧ ntS s cnt p q tm r c e (94 + 5 * (lgn cnt - 1) + 3) = c ∧ ntS s cnt p q tm r c e (94 + 5 * (lgn cnt - 1) + 4) = e := by
  have hn := nai_3 p hp
  unfold lgn ntS
  by_cases h : cnt = 32
  · rw [if_pos h, if_pos h, nt0_at hp, nt0_at hp, nt0_at hp, nt0_at hp, nt0_at hp]; unfold ntv
    refine ⟨?_, ?_, ?_, ?_, ?_⟩
    · rw [if_neg (by omega), if_neg (by omega), if_neg (by omega), if_neg (by omega), if_neg (by omega), if_neg (by omega), if_neg (by omega), if_neg (by omega), if_neg (by omega), if_pos (by omega)]
    · rw [if_neg (by omega), if_neg (by omega), if_neg (by omega), if_neg (by omega), if_neg (by omega), if_neg (by omega), if_neg (by omega), if_neg (by omega), if_pos (by omega)]
    · rw [if_neg (by omega), if_neg (by omega), if_neg (by omega), if_neg (by omega), if_neg (by omega), if_neg (by omega), if_neg (by omega), if_pos (by omega)]
    · rw [if_neg (by omega), if_neg (by omega), if_neg (by omega), if_neg (by omega), if_neg (by omega), if_neg (by omega), if_pos (by omega)]
    · rw [if_neg (by omega), if_neg (by omega), if_neg (by omega), if_neg (by omega), if_neg (by omega), if_pos (by omega)]
  · rw [if_neg h, if_neg h, nt0_at hp, nt0_at hp, nt0_at hp, nt0_at hp, nt0_at hp]; unfold ntv
    refine ⟨?_, ?_, ?_, ?_, ?_⟩
    · rw [if_neg (by omega), if_neg (by omega), if_neg (by omega), if_neg (by omega), if_neg (by omega), if_neg (by omega), if_neg (by omega), if_neg (by omega), if_neg (by omega), if_pos (by omega)]
    · rw [if_neg (by omega), if_neg (by omega), if_neg (by omega), if_neg (by omega), if_neg (by omega), if_neg (by omega), if_neg (by omega), if_neg (by omega), if_pos (by omega)]
    · rw [if_neg (by omega), if_neg (by omega), if_neg (by omega), if_neg (by omega), if_neg (by omega), if_neg (by omega), if_neg (by omega), if_pos (by omega)]
    · rw [if_neg (by omega), if_neg (by omega), if_neg (by omega), if_neg (by omega), if_neg (by omega), if_neg (by omega), if_pos (by omega)]
    · rw [if_neg (by omega), if_neg (by omega), if_neg (by omega), if_neg (by omega), if_neg (by omega), if_pos (by omega)]
/-- the other places -/
theorem ntS_at {s : SS} {cnt p q : Nat} {tm r c e : Int32} (hp : p ≤ 9) (hc : cnt ≤ 32) {x : Nat} (h7 : x ≠ 77) (hx : x < 94 ∨ 254 ≤ x) : ntS s cnt p q tm r c e x = if x = 93 then s 93 + siz c else if x = 92 then s 92 + 1 else if x = nai p then s (nai p) + (nI q + 1) else if x = 78 + p then r else s x := by
  have hn := nai_3 p hp
  have l0 : ∀ y, y ≠ 77 → (y < 94 ∨ 254 ≤ y) → lsh s y = s y := fun y h1 h2 => by unfold lsh; rw [if_neg (by omega), if_neg h1]
  unfold ntS
  by_cases h : cnt = 32
  · rw [if_pos h, nt0_at hp]; unfold ntv
    rw [l0 93 (by decide) (by decide), l0 92 (by decide) (by decide), l0 (nai p) (by omega) (by omega), l0 x h7 hx, if_neg h7, if_neg (show ¬ x = 98 + 5 * 31 by omega), if_neg (show ¬ x = 97 + 5 * 31 by omega), if_neg (show ¬ x = 96 + 5 * 31 by omega), if_neg (show ¬ x = 95 + 5 * 31 by omega), if_neg (show ¬ x = 94 + 5 * 31 by omega)]
  · rw [if_neg h, nt0_at hp]; unfold ntv
    rw [if_neg h7, if_neg (show ¬ x = 98 + 5 * cnt by omega), if_neg (show ¬ x = 97 + 5 * cnt by omega), if_neg (show ¬ x = 96 + 5 * cnt by omega), if_neg (show ¬ x = 95 + 5 * cnt by omega), if_neg (show ¬ x = 94 + 5 * cnt by omega)]
theorem LR_add {d d' : Dt} {s s' : SS} {nx c : Nat} {w : Nat → Int32} (hnx : nx < 32) (hc : c ≤ 32) (hrow : ∀ k j, k < c → j < 5 → d.1 11 (5 * ((nx + 32 - c + k) % 32) + j) = s (94 + 5 * k + j)) (hn : ∀ j, ¬ (5 * nx ≤ j ∧ j < 5 * nx + 5) → d'.1 11 j = d.1 11 j) (hw : ∀ j, j < 5 → d'.1 11 (5 * nx + j) = w j) (h1 : d'.1 9 1 = nI ((nx + 1) % 32)) (h2 : d'.1 9 2 = nI (lgn c)) (s77 : s' 77 = nI (lgn c)) (hnew : ∀ j, j < 5 → s' (94 + 5 * (lgn c - 1) + j) = w j) (hold : ∀ k j, k + 1 < lgn c → j < 5 → s' (94 + 5 * k + j) = s (94 + 5 * lgk c k + j)) : LR d' 9 s' := by
  have hl : 1 ≤ lgn c ∧ lgn c ≤ 32 ∧ lgn c ≤ c + 1 := by unfold lgn; split <;> omega
  refine ⟨(nx + 1) % 32, lgn c, by omega, hl.2.1, h1, h2, s77, fun k j hk hj => ?_⟩
  show d'.1 11 _ = _
  by_cases hk1 : k + 1 = lgn c
  · have e : ((nx + 1) % 32 + 32 - lgn c + k) % 32 = nx := by omega
    rw [e, hw j hj, ← hnew j hj, show lgn c - 1 = k by omega]
  · have hk2 : k + 1 < lgn c := by omega
    have e : ((nx + 1) % 32 + 32 - lgn c + k) % 32 = (nx + 32 - c + lgk c k) % 32 := by unfold lgn lgk at *; split <;> omega
    have hlt : lgk c k < c := by unfold lgn lgk at *; split <;> omega
    have hne : (nx + 32 - c + lgk c k) % 32 ≠ nx := by unfold lgn lgk at *; split <;> omega
    rw [hold k j hk2 hj, ← hrow (lgk c k) j hlt hj, e]
    generalize (nx + 32 - c + lgk c k) % 32 = y at hne ⊢
    exact hn _ (by omega)
theorem min32 {c : Nat} (h : c ≤ 32) : (if (32 : Int32) < nI (c + 1) then 32 else nI (c + 1)) = nI (lgn c) := by
  unfold lgn
  by_cases e : c = 32
  · subst e; rfl
  · rw [if_neg e, if_neg (show ¬ (32 : Int32) < nI (c + 1) from Int32.not_lt.mpr (nI_le (b := 32) (by omega) (by decide)))]
theorem TR_76 {d : Dt} {s : SS} {h : UInt32} {v : Int32} (hT : TR d 1 s h) : TR d 1 (sU s 76 v) h := by
  have e : ∀ j, j ≠ 76 → sU s 76 v j = s j := fun j h1 => sU_ne _ _ h1
  obtain ⟨h1, ⟨nx, c, l1, l2, l3, l4, l5, l6⟩, h3, h4, h5, h6, h7⟩ := hT
  refine ⟨h1.cg (fun j hj => e j (by omega)), ⟨nx, c, l1, l2, l3, l4, (e 77 (by decide)).trans l5, fun y j hy hj => (l6 y j hy hj).trans (e _ (by omega)).symm⟩, fun p hp => ?_, fun y hy => (h4 y hy).trans (e _ (by omega)).symm, ⟨h5.1.trans (e 254 (by decide)).symm, fun q => ?_⟩, ⟨h6.1.trans (e 331 (by decide)).symm, fun q => ?_⟩, h7⟩
  · rw [e (78 + p) (by omega)]; exact h3 p hp
  · exact (h5.2 ((e 254 (by decide)).symm.trans q)).cg (fun j hj => e _ (by omega))
  · exact (h6.2 ((e 331 (by decide)).symm.trans q)).cg (fun j hj => e _ (by omega))
abbrev bkE (x _j : Nat) : Prop := 9 ≤ x ∧ x ≤ 15
abbrev bkF (x _j : Nat) : Prop := x = 1
theorem TR_book {d d' : Dt} {s : SS} {h h' : UInt32} {nx c p q : Nat} {tm r cc ev : Int32} (hp : p ≤ 9) (hT : TR d 1 s h) (hf : fr bkE bkF d d') (hnx : nx < 32) (hc : c ≤ 32) (l3 : d.1 9 1 = nI nx) (l5 : s 77 = nI c) (hrow : ∀ k j, k < c → j < 5 → d.1 11 (5 * ((nx + 32 - c + k) % 32) + j) = s (94 + 5 * k + j))
    (hn : ∀ j, ¬ (5 * nx ≤ j ∧ j < 5 * nx + 5) → d'.1 11 j = d.1 11 j) (w0 : d'.1 11 (5 * nx) = nI p) (w1 : d'.1 11 (5 * nx + 1) = tm) (w2 : d'.1 11 (5 * nx + 2) = r) (w3 : d'.1 11 (5 * nx + 3) = cc) (w4 : d'.1 11 (5 * nx + 4) = ev) (h1 : d'.1 9 1 = nI ((nx + 1) % 32)) (h2 : d'.1 9 2 = nI (lgn c))
    (hl0 : ∀ j, j ≠ p → d'.1 13 j = d.1 13 j) (hl1 : d'.1 13 p = r) (hr : ∃ y : Nat, y ≤ 4095 ∧ r = nI y) (a0 : ∀ i, i < 4 → 88 + i ≠ nai p → d'.1 15 i = d.1 15 i) (a1 : d'.1 15 (nai p - 88) = d.1 15 (nai p - 88) + (nI q + 1)) (a4 : d'.1 15 4 = d.1 15 4 + 1) (a5 : d'.1 15 5 = d.1 15 5 + siz cc) (hh : d'.2 1 6 = h') : TR d' 1 (ntS s c p q tm r cc ev) h' := by
  have hn3 := nai_3 p hp
  have k : ∀ x j, x < 9 ∨ 15 < x → d'.1 x j = d.1 x j := fun x j hx => hf.1 x j (by omega)
  have bk : ∀ a, a + 6 < 9 ∨ 15 < a → ∀ t, SR d a t → SR d' a t := fun a ha t ht => ht.fr hf (fun j => by omega) (fun j => by omega) (fun j => by omega) (by omega)
  obtain ⟨t1, -, t3, t4, t5, t6, t7⟩ := hT
  refine ⟨(bk 2 (by omega) s t1).cg (fun j hj => ntS_in hc j hj), ?_, fun x hx => ?_, fun i hi => ?_, ⟨(k _ _ (by decide)).trans (t5.1.trans ?_), fun z => ?_⟩, ⟨(k _ _ (by decide)).trans (t6.1.trans ?_), fun z => ?_⟩, hh⟩
  · obtain ⟨b0, b1, b2, b3, b4⟩ := ntS_new (s := s) (cnt := c) (p := p) (q := q) (tm := tm) (r := r) (c := cc) (e := ev) hp
    refine LR_add (w := fun j => if j = 0 then nI p else if j = 1 then tm else if j = 2 then r else if j = 3 then cc else ev) hnx hc hrow hn (fun j hj => ?_) h1 h2 (ntS_77v hp) (fun j hj => ?_) (fun k j hk hj => ntS_old hp hc hk hj)
    · rcases (show j = 0 ∨ j = 1 ∨ j = 2 ∨ j = 3 ∨ j = 4 by omega) with rfl | rfl | rfl | rfl | rfl
      · exact w0
      · exact w1
      · exact w2
      · exact w3
      · exact w4
    · rcases (show j = 0 ∨ j = 1 ∨ j = 2 ∨ j = 3 ∨ j = 4 by omega) with rfl | rfl | rfl | rfl | rfl
      · exact b0
      · exact b1
      · exact b2
      · exact b3
      · exact b4
  · show d'.1 13 x = _
    have ex : ntS s c p q tm r cc ev (78 + x) = if 78 + x = 78 + p then r else s (78 + x) := by
      rw [ntS_at hp hc (show 78 + x ≠ 77 by omega) (Or.inl (by omega)), if_neg (by omega), if_neg (by omega), if_neg (show ¬ 78 + x = nai p by omega)]
    rw [ex]
    by_cases hxp : x = p
    · subst hxp
      obtain ⟨y, y1, y2⟩ := hr
      rw [if_pos rfl, if_neg (by rw [y2]; exact nI_nm y1)]; exact hl1
    · rw [if_neg (show ¬ 78 + x = 78 + p by omega), hl0 x hxp]; exact t3 x hx
  · show d'.1 15 i = _
    rw [ntS_at hp hc (show 88 + i ≠ 77 by omega) (Or.inl (by omega))]
    by_cases i5 : i = 5
    · subst i5; rw [if_pos rfl, a5]; exact congrArg (· + siz cc) (t4 5 (by decide))
    · rw [if_neg (by omega)]
      by_cases i4 : i = 4
      · subst i4; rw [if_pos rfl, a4]; exact congrArg (· + 1) (t4 4 (by decide))
      · rw [if_neg (by omega)]
        by_cases ia : 88 + i = nai p
        · rw [if_pos ia, show i = nai p - 88 by omega, a1]
          refine congrArg (· + (nI q + 1)) ((t4 (nai p - 88) (by omega)).trans (congrArg s (by omega)))
        · rw [if_neg ia, if_neg (by omega), a0 i (by omega) ia]; exact t4 i hi
  · rw [ntS_at hp hc (by decide) (Or.inr (by decide)), if_neg (by decide), if_neg (by decide), if_neg (by omega), if_neg (by omega)]
  · rw [ntS_at hp hc (by decide) (Or.inr (by decide)), if_neg (by decide), if_neg (by decide), if_neg (by omega), if_neg (by omega)] at z
    refine (bk 17 (by omega) _ (t5.2 z)).cg (fun j hj => ?_)
    rw [ntS_at hp hc (by omega) (Or.inr (by omega)), if_neg (by omega), if_neg (by omega), if_neg (by omega), if_neg (by omega)]
  · rw [ntS_at hp hc (by decide) (Or.inr (by decide)), if_neg (by decide), if_neg (by decide), if_neg (by omega), if_neg (by omega)]
  · rw [ntS_at hp hc (by decide) (Or.inr (by decide)), if_neg (by decide), if_neg (by decide), if_neg (by omega), if_neg (by omega)] at z
    refine (bk 25 (by omega) _ (t6.2 z)).cg (fun j hj => ?_)
    rw [ntS_at hp hc (by omega) (Or.inr (by omega)), if_neg (by omega), if_neg (by omega), if_neg (by omega), if_neg (by omega)]
