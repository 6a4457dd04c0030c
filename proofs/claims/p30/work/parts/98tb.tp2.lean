/-! THE PROPERTY (2): slots that pass, scans -/
theorem tp_76 {A : AS} {T : Nat} (hI : tp_I A T) : ∃ t, t ≤ T ∧ t ≤ 9999 ∧ a_s A 76 = nI t ∧ nn (a_s A 76) = t := by
  obtain ⟨t, _, _, _, h1, h2, -⟩ := hI.2.2.2.2
  obtain ⟨t', h3, h4⟩ := hI.1.1.2.1
  rw [h4] at h1
  refine ⟨t', ?_, h3, h4, by rw [h4]; exact nn_nI (by omega)⟩
  obtain ⟨t2, c, m, τ, g1, g2, -⟩ := hI.2.2.2.2
  rw [h4] at g1
  by_cases z : t2 < 2 ^ 31
  · rw [(nI_eq (by omega) z).mp g1]; exact g2
  · omega
theorem tp_pass {n : Int32} {N : Nat} (hn : ∀ k : Nat, n = nI k → k ≤ 1000 → k ≤ N) : tp_E (fun A => opPass A n) N := by
  classical
  refine ⟨fun s _ => if bin n 1 1000 = 0 then eI else if 9999 < s 76 + n then eC else s 76 + n, fun s _ => sU (sU s 76 (s 76 + n)) 91 (s 91 + n), fun _ h => h, fun A T hI hT => ?_⟩
  show ((opPass A n).1 = _ ∧ (opPass A n).2 = _ ∧ _) ∨ ((opPass A n).1 = _ ∧ (opPass A n).2 = _ ∧ _)
  unfold opPass
  by_cases c1 : bin n 1 1000 = 0
  · left; rw [if_pos c1]; dsimp only; rw [if_pos c1]; exact ⟨rfl, rfl, by decide⟩
  rw [if_neg c1]
  by_cases c2 : 9999 < a_s A 76 + n
  · left; rw [if_pos c2]; dsimp only; rw [if_neg c1, if_pos c2]; exact ⟨rfl, rfl, by decide⟩
  right
  rw [if_neg c2]; dsimp only; rw [if_neg c1, if_neg c2]
  obtain ⟨k, k1, k2, rfl⟩ := bin_t1 (b := 1000) (by decide) c1
  have hk := hn k rfl k2
  obtain ⟨t, t1, t2, t3, t4⟩ := tp_76 hI
  have e : a_s A 76 + nI k = nI (t + k) := by rw [t3, nI_add]
  have hlo : ∀ j, j ≠ 76 → j ≠ 91 → sU (sU (a_s A) 76 (a_s A 76 + nI k)) 91 (a_s A 91 + nI k) j = a_s A j := fun j h1 h2 => by rw [sU_ne _ _ h2, sU_ne _ _ h1]
  refine ⟨rfl, rfl, by rw [e]; exact tp_nI (by omega), fun j hj => hlo j (by omega) (by omega), tp_G_cg ⟨hlo _ (by decide) (by decide), hlo _ (by decide) (by decide)⟩ hI.2.2.1, fun p hp => ?_, ?_⟩
  · rw [hlo (254 + 77 * p) (by omega) (by omega)]
    exact (hI.2.2.2.1 p hp).imp_right (fun z => tp_G_cg ⟨hlo _ (by omega) (by omega), hlo _ (by omega) (by omega)⟩ z)
  · obtain ⟨t0, c, m, τ, h1, h2, h3, h4, h5, h6, h7, h8, h9, h10⟩ := hI.2.2.2.2
    have et : t0 = t := by
      by_cases z : t0 < 2 ^ 31
      · rw [t3] at h1; exact ((nI_eq (by omega) z).mp h1).symm
      · omega
    subst et
    exact ⟨t0 + k, c, m, τ, by rw [sU_ne _ _ (by decide), sU_eq]; exact e, by omega, (hlo 77 (by decide) (by decide)).trans h3, h4, (hlo 92 (by decide) (by decide)).trans h5, h6, h7, by omega, fun i hi => ⟨(hlo _ (by omega) (by omega)).trans (h9 i hi).1, by have := (h9 i hi).2; omega⟩, h10⟩
/-- through a scan: the log, the time, the sum of the carries -/
def tp_S (s : SS) (b : Nat) (S : SC) : Prop := sin s S.1 ∧ (∀ j, 254 ≤ j → S.1 j = s j) ∧ (∃ (c m : Nat) (τ : Nat → Nat), S.1 77 = nI c ∧ c ≤ 32 ∧ S.1 92 = nI m ∧ c ≤ m ∧ (c = 32 ∨ m = c) ∧ m ≤ S.2.1 ∧ (∀ i, i < c → S.1 (95 + 5 * i) = nI (τ i) ∧ τ i < S.2.1) ∧ ∀ i, i + 1 < c → τ i < τ (i + 1)) ∧ ∃ y : Nat, y ≤ 4095 * b ∧ S.1 93 = s 93 + nI y
theorem tp_siz {a b : Nat} (ha : a ≤ 4095) (hb : b ≤ 4095) : ∃ y : Nat, y ≤ 4095 ∧ siz (nI a - nI b) = nI y := by
  unfold siz
  by_cases h : b ≤ a
  · have e : nI a - nI b = nI (a - b) := pk_sub h
    rw [e, if_neg (nI_pos (by omega))]
    exact ⟨a - b, by omega, rfl⟩
  · have hT : (nI a - nI b).toInt = (a : Int) - b := pk_sub_toInt (by omega) (by omega)
    have e : nI a - nI b = -(nI (b - a)) := by
      apply Int32.toInt_inj.mp
      rw [hT, sb_negT (by omega)]; omega
    rw [if_pos (Int32.lt_iff_toInt_lt.mpr (by rw [hT]; show _ < (0 : Int32).toInt; rw [show (0 : Int32).toInt = 0 by decide]; omega)), e, Int32.neg_neg]
    exact ⟨b - a, by omega, rfl⟩
theorem tp_lgk {c k : Nat} (h : k + 1 < lgn c) : lgk c k < c := by
  unfold lgn at h
  unfold lgk
  by_cases e : c = 32
  · rw [if_pos e] at h ⊢; omega
  · rw [if_neg e] at h ⊢; omega
theorem tp_lgk2 {c k : Nat} (h : k + 1 + 1 < lgn c) : lgk c k + 1 < c := by
  unfold lgn at h
  unfold lgk
  by_cases e : c = 32
  · rw [if_pos e] at h ⊢; omega
  · rw [if_neg e] at h ⊢; omega
theorem tp_SE {s : SS} {n b i : Nat} {S : SC} (hl : okL s n) (hi : i < n) (h : tp_S s b S) : tp_S s (b + 1) (scE i S) := by
  obtain ⟨h1, h2, ⟨c, m, τ, g1, g2, g3, g4, g5, g6, g7, g8⟩, y, y1, y2⟩ := h
  have hl' := okL_in h1 hl
  obtain ⟨-, hp⟩ := okL_p hl' hi
  obtain ⟨-, hq⟩ := okL_q hl' hi
  have hn3 := nai_3 (pn S.1 i) hp
  have e1 : nn (S.1 77) = c := by rw [g1]; exact nn_nI (by omega)
  obtain ⟨r, r1, r2⟩ : ∃ y : Nat, y ≤ 4095 ∧ xr S.1 (pn S.1 i) (qn S.1 i) S.2.1 S.2.2 = nI y := rdb_ok _ _ _
  obtain ⟨r', r1', r2'⟩ : ∃ y : Nat, y ≤ 4095 ∧ rdb (cos S.1 (pn S.1 i) (qn S.1 i + 1) S.2.1 FP.fconst0) (S.1 41) (S.1 42) = nI y := rdb_ok _ _ _
  obtain ⟨z, z1, z2⟩ := tp_siz r1 r1'
  have ec : xc S.1 (pn S.1 i) (qn S.1 i) S.2.1 S.2.2 = nI r - nI r' := by unfold xc; rw [r2, r2']
  have hE : (scE i S).1 = ntS S.1 c (pn S.1 i) (qn S.1 i) (nI (S.2.1 + qn S.1 i)) (xr S.1 (pn S.1 i) (qn S.1 i) S.2.1 S.2.2) (xc S.1 (pn S.1 i) (qn S.1 i) S.2.1 S.2.2) (xe S.1 (pn S.1 i) (qn S.1 i) S.2.1 S.2.2) := by
    show ntS S.1 (nn (S.1 77)) _ _ _ _ _ _ = _
    rw [e1]
  have e2 : (scE i S).2.1 = S.2.1 + (qn S.1 i + 1) := rfl
  unfold tp_S
  rw [hE, e2]
  generalize xr S.1 (pn S.1 i) (qn S.1 i) S.2.1 S.2.2 = xrv at *
  generalize xe S.1 (pn S.1 i) (qn S.1 i) S.2.1 S.2.2 = xev
  generalize xc S.1 (pn S.1 i) (qn S.1 i) S.2.1 S.2.2 = xcv at ec ⊢
  generalize qn S.1 i = q at hq ⊢
  generalize pn S.1 i = p at hp hn3 ⊢
  have lg : 1 ≤ lgn c ∧ lgn c ≤ 32 ∧ lgn c ≤ c + 1 := by unfold lgn; split <;> omega
  refine ⟨fun j hj => (ntS_in g2 j hj).trans (h1 j hj), fun j hj => ?_, ⟨lgn c, m + 1, fun k => if k + 1 = lgn c then S.2.1 + q else τ (lgk c k), ntS_77v hp, lg.2.1, ?_, by omega, ?_, by omega, fun k hk => ?_, fun k hk => ?_⟩, y + z, by omega, ?_⟩
  · rw [ntS_at hp g2 (by omega) (Or.inr hj), if_neg (by omega), if_neg (by omega), if_neg (by omega), if_neg (by omega)]; exact h2 j hj
  · rw [ntS_at hp g2 (by decide) (by decide), if_neg (by decide), if_pos rfl, g3, nI_1]
  · unfold lgn; split <;> omega
  · by_cases ek : k + 1 = lgn c
    · refine ⟨?_, by show (if k + 1 = lgn c then _ else _) < _; rw [if_pos ek]; omega⟩
      show _ = nI (if k + 1 = lgn c then _ else _)
      rw [if_pos ek]
      exact (congrArg (ntS S.1 c p q (nI (S.2.1 + q)) xrv xcv xev) (show 95 + 5 * k = 94 + 5 * (lgn c - 1) + 1 by omega)).trans (ntS_new (s := S.1) (cnt := c) (p := p) (q := q) (tm := nI (S.2.1 + q)) (r := xrv) (c := xcv) (e := xev) hp).2.1
    · have hk2 : k + 1 < lgn c := by omega
      have hlt : lgk c k < c := tp_lgk (by omega)
      have := (g7 _ hlt)
      refine ⟨?_, by show (if k + 1 = lgn c then _ else _) < _; rw [if_neg ek]; omega⟩
      show _ = nI (if k + 1 = lgn c then _ else _)
      rw [if_neg ek, ← this.1]
      have := ntS_old (s := S.1) (cnt := c) (p := p) (q := q) (tm := nI (S.2.1 + q)) (r := xrv) (c := xcv) (e := xev) hp g2 (k := k) (j := 1) hk2 (by decide)
      rw [show 95 + 5 * k = 94 + 5 * k + 1 by omega, this, show 95 + 5 * lgk c k = 94 + 5 * lgk c k + 1 by omega]
  · show (if k + 1 = lgn c then _ else _) < (if k + 1 + 1 = lgn c then _ else _)
    rw [if_neg (show ¬ k + 1 = lgn c by omega)]
    have hlt : lgk c k < c := tp_lgk (by omega)
    by_cases ek : k + 1 + 1 = lgn c
    · rw [if_pos ek]; have := (g7 _ hlt).2; omega
    · rw [if_neg ek]
      have : lgk c (k + 1) = lgk c k + 1 := by unfold lgk; split <;> omega
      rw [this]
      exact g8 _ (tp_lgk2 (by omega))
  · rw [ntS_at hp g2 (by decide) (by decide), if_pos rfl, y2, ec, z2, Int32.add_assoc, nI_add]
theorem tp_SL {s : SS} {n b : Nat} {S : SC} (hl : okL s n) (h : tp_S s b S) : ∀ i, i ≤ n → tp_S s (b + i) (scL i S)
  | 0, _ => h
  | i + 1, hi => tp_SE hl (by omega) (tp_SL hl h i (by omega))
theorem tp_SR {s : SS} {n b : Nat} {S : SC} (hl : okL s n) (h : tp_S s b S) : ∀ k, tp_S s (b + k * n) (scR n k S)
  | 0 => by rw [Nat.zero_mul]; exact h
  | k + 1 => by
    have := tp_SL hl (tp_SR hl h k) n (Nat.le_refl n)
    rw [Nat.succ_mul, ← Nat.add_assoc]; exact this
theorem tp_scan {n : Int32} {N : Nat} (hn : ∀ k : Nat, n = nI k → k ≤ 20 → 128 * k ≤ N) : tp_E (fun A => opScan A n) N := by
  classical
  refine ⟨fun s h => if bin n 1 20 = 0 then eI else if s 43 = 0 then eS else if 9999 < s 76 + n * sls s (nn (s 43)) then eC else (scR (nn (s 43)) (nn n) (s, nn (s 76), h)).1 93 - s 93, fun s h => sU (scR (nn (s 43)) (nn n) (s, nn (s 76), h)).1 76 (nI (scR (nn (s 43)) (nn n) (s, nn (s 76), h)).2.1), fun s h => (scR (nn (s 43)) (nn n) (s, nn (s 76), h)).2.2, fun A T hI hT => ?_⟩
  show ((opScan A n).1 = _ ∧ (opScan A n).2 = _ ∧ _) ∨ ((opScan A n).1 = _ ∧ (opScan A n).2 = _ ∧ _)
  unfold opScan
  by_cases c1 : bin n 1 20 = 0
  · left; rw [if_pos c1]; dsimp only; rw [if_pos c1]; exact ⟨rfl, rfl, by decide⟩
  rw [if_neg c1]
  by_cases c2 : a_s A 43 = 0
  · left; rw [if_pos c2]; dsimp only; rw [if_neg c1, if_pos c2]; exact ⟨rfl, rfl, by decide⟩
  rw [if_neg c2]
  by_cases c3 : 9999 < a_s A 76 + n * sls (a_s A) (nn (a_s A 43))
  · left; rw [if_pos c3]; dsimp only; rw [if_neg c1, if_neg c2, if_pos c3]; exact ⟨rfl, rfl, by decide⟩
  right
  rw [if_neg c3]; dsimp only; rw [if_neg c1, if_neg c2, if_neg c3]
  obtain ⟨k, k1, k2, rfl⟩ := bin_t1 (b := 20) (by decide) c1
  have hk := hn k rfl k2
  obtain ⟨t, t1, t2, t3, t4⟩ := tp_76 hI
  have hl := tp_n hI
  have h16 := hl.1
  have ek : nn (nI k) = k := nn_nI (by omega)
  obtain ⟨t0, c, m, τ, h1, h2, h3, h4, h5, h6, h7, h8, h9, h10⟩ := hI.2.2.2.2
  have et : t0 = t := by
    by_cases z : t0 < 2 ^ 31
    · rw [t3] at h1; exact ((nI_eq (by omega) z).mp h1).symm
    · omega
  subst et
  have h0 : tp_S (a_s A) 0 (a_s A, t0, a_h A) := ⟨fun _ _ => rfl, fun _ _ => rfl, ⟨c, m, τ, h3, h4, h5, h6, h7, h8, h9, h10⟩, 0, Nat.zero_le _, by show _ = _ + 0; rw [Int32.add_zero]⟩
  have hb : (scR (nn (a_s A 43)) k (a_s A, t0, a_h A)).2.1 ≤ t0 + 128 * k := (scI_R hl (s := a_s A) (b := t0) ⟨fun _ _ => rfl, Nat.le_refl _, c, h4, h3⟩ k).2.1
  obtain ⟨q1, q2, ⟨c', m', τ', g3, g4, g5, g6, g7, g8, g9, g10⟩, y, y1, y2⟩ := tp_SR hl h0 k
  rw [t4, ek]
  generalize scR (nn (a_s A 43)) k (a_s A, t0, a_h A) = S at *
  have hkn : k * nn (a_s A 43) ≤ 20 * 16 := Nat.mul_le_mul k2 h16
  have ne : ∀ j, j ≠ 76 → sU S.1 76 (nI S.2.1) j = S.1 j := fun j hj => sU_ne _ _ hj
  refine ⟨rfl, rfl, ?_, fun j hj => (ne j (by omega)).trans (q2 j (by omega)), tp_G_cg ⟨(ne _ (by decide)).trans (q1 _ (by decide)), (ne _ (by decide)).trans (q1 _ (by decide))⟩ hI.2.2.1, fun p hp => ?_, S.2.1, c', m', τ', sU_eq _ _ _, by omega, (ne _ (by decide)).trans g3, g4, (ne _ (by decide)).trans g5, g6, g7, g8, fun i hi => ⟨(ne _ (by omega)).trans (g9 i hi).1, (g9 i hi).2⟩, g10⟩
  · rw [y2, Int32.add_comm, Int32.add_sub_cancel]; exact tp_nI (by omega)
  · rw [ne _ (by omega), q2 _ (by omega)]
    exact (hI.2.2.2.1 p hp).imp_right (fun z => tp_G_cg ⟨(ne _ (by omega)).trans (q2 _ (by omega)), (ne _ (by omega)).trans (q2 _ (by omega))⟩ z)
