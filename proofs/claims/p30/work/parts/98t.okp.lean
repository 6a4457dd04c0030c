/-! STATES THAT CAN BE stay so -/
theorem okC_cg {s s' : SS} {c : Nat} (h : ∀ i, i < 5 → s' (5 * c + i) = s (5 * c + i)) (ho : okC s c) : okC s' c := by
  unfold okC at ho ⊢
  rw [show s' (5 * c) = s (5 * c) from h 0 (by decide), h 1 (by decide), h 2 (by decide), h 3 (by decide), h 4 (by decide)]
  exact ho
theorem okL_cg {s s' : SS} {n : Nat} (h : ∀ j, 43 ≤ j → j < 76 → s' j = s j) (ho : okL s n) : okL s' n := by
  have h16 := ho.1
  refine ⟨ho.1, (h 43 (by decide) (by decide)).trans ho.2.1, fun i hi => ?_⟩
  rw [h (44 + 2 * i) (by omega) (by omega), h (45 + 2 * i) (by omega) (by omega)]
  exact ho.2.2 i hi
theorem okS_cg {s s' : SS} (h : ∀ j, j < 76 → s' j = s j) (ho : okS s) : okS s' := by
  obtain ⟨h1, ⟨r, r1, r2⟩, n, hn⟩ := ho
  exact ⟨fun c hc => okC_cg (fun i hi => h _ (by omega)) (h1 c hc), ⟨r, r1, (h 40 (by decide)).trans r2⟩, n, okL_cg (fun j _ hj => h j hj) hn⟩
theorem okT_S {s s' : SS} (hT : okT s) (hS : okS s') (h : ∀ j, 76 ≤ j → s' j = s j) : okT s' := by
  obtain ⟨-, ⟨t, t1, t2⟩, ⟨c, c1, c2⟩, h4, h5, h6⟩ := hT
  refine ⟨hS, ⟨t, t1, (h 76 (by decide)).trans t2⟩, ⟨c, c1, (h 77 (by decide)).trans c2⟩, fun p hp => ?_, fun p hp => ?_, ?_⟩
  · rw [h (78 + p) (by omega)]; exact h4 p hp
  · rw [h (254 + 77 * p) (by omega)]
    exact (h5 p hp).imp_right (fun q => ⟨q.1, okS_cg (fun j hj => h _ (by omega)) q.2⟩)
  · rw [h 76 (by decide), h 88 (by decide), h 89 (by decide), h 90 (by decide), h 91 (by decide)]; exact h6
theorem okT_cg {s s' : SS} (h : ∀ j, j < 408 → s' j = s j) (hT : okT s) : okT s' := by
  obtain ⟨h1, ⟨t, t1, t2⟩, ⟨c, c1, c2⟩, h4, h5, h6⟩ := hT
  refine ⟨okS_cg (fun j hj => h j (by omega)) h1, ⟨t, t1, (h 76 (by decide)).trans t2⟩, ⟨c, c1, (h 77 (by decide)).trans c2⟩, fun p hp => ?_, fun p hp => ?_, ?_⟩
  · rw [h (78 + p) (by omega)]; exact h4 p hp
  · rw [h (254 + 77 * p) (by omega)]
    exact (h5 p hp).imp_right (fun q => ⟨q.1, okS_cg (fun j hj => h _ (by omega)) q.2⟩)
  · rw [h 76 (by decide), h 88 (by decide), h 89 (by decide), h 90 (by decide), h 91 (by decide)]; exact h6
theorem OK_rec {A : AS} {s : SS} {h : UInt32} (hO : OK A) (hs : okT s) : OK (rec A s h) := by
  obtain ⟨h1, h2, h3, h4, h5⟩ := hO
  have hmm : hm (a_m A) ≤ 4 := by unfold hm; split <;> omega
  refine ⟨hs, by show hm _ + 1 ≤ 5; omega, fun i hi => ?_, h4, h5⟩
  have hi' : i < hm (a_m A) + 1 := hi
  show okT (fun j => hsv2 (a_m A) (a_v A) (a_s A) (408 * i + j))
  by_cases c : i = hm (a_m A)
  · subst c; exact okT_cg (fun j hj => hsv2_new hj) h1
  · have hi2 : i < hm (a_m A) := by omega
    have hlt : (if a_m A = 5 then i + 1 else i) < a_m A := by unfold hm at hi2; split at hi2 <;> split <;> omega
    exact okT_cg (fun j hj => hsv2_old h2 hi2 hj) (h3 _ hlt)
theorem OK_s {A : AS} (hO : OK A) {s : SS} {h : UInt32} (hS : okS s) (he : ∀ j, 76 ≤ j → s j = a_s A j) : OK (rec A s h) := OK_rec hO (okT_S hO.1 hS he)
/-! sources -/
theorem okC_put {s : SS} {c k lv : Nat} {K l x p : Int32} (ho : okC s c) (e1 : K = nI k) (k2 : k ≤ 2) (e2 : l = nI lv) (l2 : lv ≤ 4095) (hx : -64 ≤ x.toInt ∧ x.toInt ≤ 4095) (h2 : k = 2 → ∃ y : Nat, y ≤ 4095 ∧ x = nI y) (h3 : k = 2 → ∃ y : Nat, 2 ≤ y ∧ y ≤ 200 ∧ p = nI y) : okC (pso s c K l x p) c := by
  obtain ⟨_, _, r, -, -, -, -, r1, r2, -, -, -⟩ := ho
  have v0 : pso s c K l x p (5 * c) = K := by unfold pso; rw [sU_ne _ _ (by omega), sU_ne _ _ (by omega), sU_ne _ _ (by omega), sU_eq]
  have v1 : pso s c K l x p (5 * c + 1) = l := by unfold pso; rw [sU_ne _ _ (by omega), sU_ne _ _ (by omega), sU_eq]
  have v2 : pso s c K l x p (5 * c + 2) = x := by unfold pso; rw [sU_ne _ _ (by omega), sU_eq]
  have v3 : pso s c K l x p (5 * c + 3) = p := by unfold pso; rw [sU_eq]
  have v4 : pso s c K l x p (5 * c + 4) = s (5 * c + 4) := by unfold pso; rw [sU_ne _ _ (by omega), sU_ne _ _ (by omega), sU_ne _ _ (by omega), sU_ne _ _ (by omega)]
  unfold okC
  rw [v0, v1, v2, v3, v4]
  exact ⟨k, lv, r, e1, k2, e2, l2, r1, r2, hx, h2, h3⟩
theorem pso_ne {s : SS} {c : Nat} {k l x p : Int32} {j : Nat} (h : j < 5 * c ∨ 5 * c + 3 < j) : pso s c k l x p j = s j := by
  unfold pso; rw [sU_ne _ _ (by omega), sU_ne _ _ (by omega), sU_ne _ _ (by omega), sU_ne _ _ (by omega)]
theorem okS_put {s : SS} {c k lv : Nat} {K l x p : Int32} (ho : okS s) (hc : c < 8) (e1 : K = nI k) (k2 : k ≤ 2) (e2 : l = nI lv) (l2 : lv ≤ 4095) (hx : -64 ≤ x.toInt ∧ x.toInt ≤ 4095) (h2 : k = 2 → ∃ y : Nat, y ≤ 4095 ∧ x = nI y) (h3 : k = 2 → ∃ y : Nat, 2 ≤ y ∧ y ≤ 200 ∧ p = nI y) : okS (pso s c K l x p) := by
  obtain ⟨h1, ⟨r, r1, r2⟩, n, hn⟩ := ho
  refine ⟨fun c' hc' => ?_, ⟨r, r1, (pso_ne (by omega)).trans r2⟩, n, okL_cg (fun j h4 _ => pso_ne (by omega)) hn⟩
  by_cases e : c' = c
  · subst e; exact okC_put (h1 c' hc') e1 k2 e2 l2 hx h2 h3
  · exact okC_cg (fun i hi => pso_ne (by omega)) (h1 c' hc')
theorem nI_b {y : Nat} (h : y ≤ 4095) : -64 ≤ (nI y).toInt ∧ (nI y).toInt ≤ 4095 := by rw [nI_toInt (by omega)]; omega
theorem okS_src {s : SS} {c : Nat} {k l x p : Int32} (ho : okS s) (hc : c < 8) (h : ¬ isrc k l x p = 0) : okS (pso s c k l x p) := by
  unfold isrc at h
  by_cases b : bin l 0 4095 = 0
  · rw [if_pos b] at h; exact absurd rfl h
  rw [if_neg b] at h
  obtain ⟨lv, l1, l2⟩ := bin_t (b := 4095) (by decide) b
  by_cases k0 : k = 0
  · rw [if_pos k0] at h
    by_cases q : x = 0 ∧ p = 0
    · exact okS_put (k := 0) ho hc k0 (by decide) l2 l1 (by rw [q.1]; decide) (fun z => absurd z (by decide)) (fun z => absurd z (by decide))
    · rw [if_neg q] at h; exact absurd rfl h
  rw [if_neg k0] at h
  by_cases k1 : k = 1
  · rw [if_pos k1] at h
    by_cases q : ¬ bin x (-64) 64 = 0 ∧ p = 0
    · refine okS_put (k := 1) ho hc k1 (by decide) l2 l1 ?_ (fun z => absurd z (by decide)) (fun z => absurd z (by decide))
      have q1 := q.1
      unfold bin at q1
      by_cases y : (-64 : Int32) ≤ x ∧ x ≤ 64
      · have y1 := Int32.le_iff_toInt_le.mp y.1
        have y2 := Int32.le_iff_toInt_le.mp y.2
        rw [show (-64 : Int32).toInt = -64 by decide] at y1
        rw [show (64 : Int32).toInt = 64 by decide] at y2
        omega
      · rw [if_neg y] at q1; exact absurd rfl q1
    · rw [if_neg q] at h; exact absurd rfl h
  rw [if_neg k1] at h
  by_cases k2 : k = 2
  · rw [if_pos k2] at h
    by_cases q : ¬ bin x 0 4095 = 0 ∧ ¬ bin p 2 200 = 0
    · obtain ⟨y, y1, y2⟩ := bin_t (b := 4095) (by decide) q.1
      have q2 := q.2
      have hp : ∃ y : Nat, 2 ≤ y ∧ y ≤ 200 ∧ p = nI y := by
        unfold bin at q2
        by_cases z : (2 : Int32) ≤ p ∧ p ≤ 200
        · have h0 : ¬ p < 0 := fun w => by
            have w1 := Int32.lt_iff_toInt_lt.mp w
            have w2 := Int32.le_iff_toInt_le.mp z.1
            rw [show (0 : Int32).toInt = 0 by decide] at w1
            rw [show (2 : Int32).toInt = 2 by decide] at w2
            omega
          obtain ⟨j, hj, e⟩ := nI_of h0
          rw [e] at z
          exact ⟨j, (nI_leI (a := 2) (by decide) hj).mp z.1, (nI_leI (b := 200) hj (by decide)).mp z.2, e⟩
        · rw [if_neg z] at q2; exact absurd rfl q2
      exact okS_put (k := 2) ho hc k2 (by decide) l2 l1 (by rw [y2]; exact nI_b y1) (fun _ => ⟨y, y1, y2⟩) (fun _ => hp)
    · rw [if_neg q] at h; exact absurd rfl h
  · rw [if_neg k2] at h; exact absurd rfl h
theorem okS_res {s : SS} {c r : Nat} {v : Int32} (ho : okS s) (hc : c < 8) (e : v = nI r) (hr : r ≤ 31) : okS (sU s (5 * c + 4) v) := by
  obtain ⟨h1, ⟨r0, r1, r2⟩, n, hn⟩ := ho
  refine ⟨fun c' hc' => ?_, ⟨r0, r1, (sU_ne _ _ (by omega)).trans r2⟩, n, okL_cg (fun j h4 _ => sU_ne _ _ (by omega)) hn⟩
  by_cases ec : c' = c
  · subst ec
    obtain ⟨k, lv, r3, a1, a2, a3, a4, a5, a6, a7, a8, a9⟩ := h1 c' hc'
    unfold okC
    rw [sU_ne _ _ (show 5 * c' ≠ 5 * c' + 4 by omega), sU_ne _ _ (show 5 * c' + 1 ≠ 5 * c' + 4 by omega), sU_ne _ _ (show 5 * c' + 2 ≠ 5 * c' + 4 by omega), sU_ne _ _ (show 5 * c' + 3 ≠ 5 * c' + 4 by omega), sU_eq]
    exact ⟨k, lv, r, a1, a2, a3, a4, e, hr, a7, a8, a9⟩
  · exact okC_cg (fun i hi => sU_ne _ _ (by omega)) (h1 c' hc')
theorem okS_ins {s : SS} {b p q : Nat} {P Q : Int32} (ho : okS s) (h16 : ¬ s 43 = 16) (hb : b ≤ nn (s 43)) (e1 : P = nI p) (hp : p ≤ 9) (e2 : Q = nI q) (hq : q ≤ 7) : okS (ins s (nn (s 43)) b P Q) := by
  have hl := okL_n ho
  obtain ⟨h1, ⟨r0, r1, r2⟩, -⟩ := ho
  generalize hn : nn (s 43) = n at hl hb ⊢
  have hn16 := hl.1
  have hne : n ≠ 16 := fun z => h16 (by rw [hl.2.1, z]; rfl)
  have lo : ∀ j, j < 43 → ins s n b P Q j = s j := fun j hj => by unfold ins; rw [if_neg (by omega), if_neg (by omega), if_neg (by omega), if_neg (by omega)]
  refine ⟨fun c hc => okC_cg (fun i hi => lo _ (by omega)) (h1 c hc), ⟨r0, r1, (lo 40 (by decide)).trans r2⟩, n + 1, by omega, if_pos rfl, fun i hi => ?_⟩
  by_cases i1 : i < b
  · have a1 : ins s n b P Q (44 + 2 * i) = s (44 + 2 * i) := by unfold ins; rw [if_neg (by omega), if_neg (by omega), if_neg (by omega), if_neg (by omega)]
    have a2 : ins s n b P Q (45 + 2 * i) = s (45 + 2 * i) := by unfold ins; rw [if_neg (by omega), if_neg (by omega), if_neg (by omega), if_neg (by omega)]
    rw [a1, a2]; exact hl.2.2 i (by omega)
  · by_cases i2 : i = b
    · subst i2
      have a1 : ins s n i P Q (44 + 2 * i) = P := by unfold ins; rw [if_neg (by omega), if_pos rfl]
      have a2 : ins s n i P Q (45 + 2 * i) = Q := by unfold ins; rw [if_neg (by omega), if_neg (by omega), if_pos rfl]
      rw [a1, a2]; exact ⟨⟨p, hp, e1⟩, q, hq, e2⟩
    · have a1 : ins s n b P Q (44 + 2 * i) = s (44 + 2 * (i - 1)) := by unfold ins; rw [if_neg (by omega), if_neg (by omega), if_neg (by omega), if_pos (by omega)]; exact congrArg s (by omega)
      have a2 : ins s n b P Q (45 + 2 * i) = s (45 + 2 * (i - 1)) := by unfold ins; rw [if_neg (by omega), if_neg (by omega), if_neg (by omega), if_pos (by omega)]; exact congrArg s (by omega)
      rw [a1, a2]; exact hl.2.2 (i - 1) (by omega)
theorem okS_rem {s : SS} {e : Nat} (ho : okS s) (he : e < nn (s 43)) : okS (rem s (nn (s 43)) e) := by
  have hl := okL_n ho
  obtain ⟨h1, ⟨r0, r1, r2⟩, -⟩ := ho
  generalize hn : nn (s 43) = n at hl he ⊢
  have hn16 := hl.1
  have lo : ∀ j, j < 43 → rem s n e j = s j := fun j hj => by unfold rem; rw [if_neg (by omega), if_neg (by omega)]
  refine ⟨fun c hc => okC_cg (fun i hi => lo _ (by omega)) (h1 c hc), ⟨r0, r1, (lo 40 (by decide)).trans r2⟩, n - 1, by omega, if_pos rfl, fun i hi => ?_⟩
  by_cases i1 : i < e
  · have a1 : rem s n e (44 + 2 * i) = s (44 + 2 * i) := by unfold rem; rw [if_neg (by omega), if_neg (by omega)]
    have a2 : rem s n e (45 + 2 * i) = s (45 + 2 * i) := by unfold rem; rw [if_neg (by omega), if_neg (by omega)]
    rw [a1, a2]; exact hl.2.2 i (by omega)
  · have a1 : rem s n e (44 + 2 * i) = s (44 + 2 * (i + 1)) := by unfold rem; rw [if_neg (by omega), if_pos (by omega)]; exact congrArg s (by omega)
    have a2 : rem s n e (45 + 2 * i) = s (45 + 2 * (i + 1)) := by unfold rem; rw [if_neg (by omega), if_pos (by omega)]; exact congrArg s (by omega)
    rw [a1, a2]; exact hl.2.2 (i + 1) (by omega)
theorem okS_sU {s : SS} {k : Nat} {v : Int32} (ho : okS s) (h : k = 41 ∨ k = 42 ∨ 76 ≤ k) : okS (sU s k v) := by
  obtain ⟨h1, ⟨r0, r1, r2⟩, n, hn⟩ := ho
  exact ⟨fun c hc => okC_cg (fun i hi => sU_ne _ _ (by omega)) (h1 c hc), ⟨r0, r1, (sU_ne _ _ (by omega)).trans r2⟩, n, okL_cg (fun j h4 h5 => sU_ne _ _ (by omega)) hn⟩
theorem okS_40 {s : SS} {r : Nat} {v : Int32} (ho : okS s) (e : v = nI r) (hr : r ≤ 4095) : okS (sU s 40 v) := by
  obtain ⟨h1, -, n, hn⟩ := ho
  exact ⟨fun c hc => okC_cg (fun i hi => sU_ne _ _ (by omega)) (h1 c hc), ⟨r, hr, (sU_eq _ _ _).trans e⟩, n, okL_cg (fun j h4 h5 => sU_ne _ _ (by omega)) hn⟩
/-! the calls -/
theorem O_setSource {A : AS} {c k l x p : Int32} (hO : OK A) : OK (opSetSource A c k l x p).2 := by
  unfold opSetSource
  by_cases h : bin c 0 7 = 0 ∨ isrc k l x p = 0
  · rw [if_pos h]; exact hO
  · rw [if_neg h]
    obtain ⟨c, hc, rfl⟩ := bin_t (b := 7) (by decide) (fun z => h (Or.inl z))
    rw [nn_nI (by omega)]
    exact OK_s hO (okS_src hO.1.1 (by omega) (fun z => h (Or.inr z))) (fun j hj => pso_ne (by omega))
theorem O_setRes {A : AS} {c r : Int32} (hO : OK A) : OK (opSetRes A c r).2 := by
  unfold opSetRes
  by_cases h : bin c 0 7 = 0 ∨ bin r 0 31 = 0
  · rw [if_pos h]; exact hO
  · rw [if_neg h]
    obtain ⟨c, hc, rfl⟩ := bin_t (b := 7) (by decide) (fun z => h (Or.inl z))
    obtain ⟨r, hr, rfl⟩ := bin_t (b := 31) (by decide) (fun z => h (Or.inr z))
    rw [nn_nI (by omega)]
    exact OK_s hO (okS_res hO.1.1 (by omega) rfl hr) (fun j hj => sU_ne _ _ (by omega))
theorem O_set {A : AS} {w v : Int32} (hO : OK A) : OK (opSet A w v).2 := by
  by_cases h : oset w v = 0
  · rw [opSet_no h]; exact hO
  · obtain ⟨w, hw, rfl⟩ := oset_w h
    rw [opSet_yes h, nn_nI (by omega)]
    have he : ∀ j, 76 ≤ j → sU (a_s A) (40 + w) v j = a_s A j := fun j hj => sU_ne _ _ (by omega)
    rcases (show w = 0 ∨ w = 1 ∨ w = 2 by omega) with rfl | rfl | rfl
    · obtain ⟨r, hr, e⟩ := bin_t (v := v) (b := 4095) (by decide) (fun z => h ((oset_0 v).trans z))
      exact OK_s hO (okS_40 hO.1.1 e hr) he
    · exact OK_s hO (okS_sU hO.1.1 (by omega)) he
    · exact OK_s hO (okS_sU hO.1.1 (by omega)) he
theorem O_add {A : AS} {p q b : Int32} (hO : OK A) : OK (opAdd A p q b).2 := by
  unfold opAdd
  by_cases h : bin p 0 9 = 0 ∨ bin q 0 7 = 0 ∨ bin b 0 (a_s A 43) = 0
  · rw [if_pos h]; exact hO
  · rw [if_neg h]
    by_cases h2 : a_s A 43 = 16
    · rw [if_pos h2]; exact hO
    · rw [if_neg h2]
      have hl := okL_n hO.1.1
      have h16 := hl.1
      obtain ⟨p, hp, e1⟩ := bin_t (v := p) (b := 9) (by decide) (fun z => h (Or.inl z))
      obtain ⟨q, hq, e2⟩ := bin_t (v := q) (b := 7) (by decide) (fun z => h (Or.inr (Or.inl z)))
      obtain ⟨b, hb, rfl⟩ := bin_t (v := b) (b := nn (a_s A 43)) (by omega) (fun z => h (Or.inr (Or.inr (by rw [hl.2.1]; exact z))))
      have e3 : nn (nI b) = b := nn_nI (by omega)
      rw [e3]
      have hne : nn (a_s A 43) ≠ 16 := fun z => h2 (by rw [hl.2.1, z]; rfl)
      refine OK_s hO (okS_ins hO.1.1 h2 hb e1 hp e2 hq) (fun j hj => ?_)
      unfold ins; rw [if_neg (by omega), if_neg (by omega), if_neg (by omega), if_neg (by omega)]
theorem O_rem {A : AS} {e : Int32} (hO : OK A) : OK (opRem A e).2 := by
  unfold opRem
  by_cases h : bin e 0 (a_s A 43 - 1) = 0
  · rw [if_pos h]; exact hO
  · rw [if_neg h]
    have hl := okL_n hO.1.1
    have h16 := hl.1
    obtain ⟨e, he, rfl⟩ := bin_e (n := nn (a_s A 43)) (by omega) (by rw [← hl.2.1]; exact h)
    have e3 : nn (nI e) = e := nn_nI (by omega)
    rw [e3]
    refine OK_s hO (okS_rem hO.1.1 he) (fun j hj => ?_)
    unfold rem; rw [if_neg (by omega), if_neg (by omega)]
theorem O_settle {A : AS} {e q : Int32} (hO : OK A) : OK (opSettle A e q).2 := by
  unfold opSettle
  by_cases h : bin e 0 (a_s A 43 - 1) = 0 ∨ bin q 0 7 = 0
  · rw [if_pos h]; exact hO
  · rw [if_neg h]
    have hl := okL_n hO.1.1
    have h16 := hl.1
    obtain ⟨e, he, rfl⟩ := bin_e (n := nn (a_s A 43)) (by omega) (by rw [← hl.2.1]; exact fun z => h (Or.inl z))
    obtain ⟨q, hq, rfl⟩ := bin_t (b := 7) (by decide) (fun z => h (Or.inr z))
    have e3 : nn (nI e) = e := nn_nI (by omega)
    rw [e3]
    obtain ⟨h1, ⟨r0, r1, r2⟩, -⟩ := hO.1.1
    refine OK_s hO ⟨fun c hc => okC_cg (fun i hi => sU_ne _ _ (by omega)) (h1 c hc), ⟨r0, r1, (sU_ne _ _ (by omega)).trans r2⟩, _, okL_set hl hq⟩ (fun j hj => sU_ne _ _ (by omega))
theorem O_order {A : AS} {r : Int32} (hO : OK A) : OK (opOrder A r).2 := by
  unfold opOrder
  by_cases h : bin r 0 3 = 0
  · rw [if_pos h]; exact hO
  · rw [if_neg h]
    have hl := okL_n hO.1.1
    have h16 := hl.1
    have hA := aR_arr (a_s A) (tau (a_s A) r (nn (a_s A 43))) (nn (a_s A 43))
    obtain ⟨h1, ⟨r0, r1, r2⟩, -⟩ := hO.1.1
    exact OK_s hO ⟨okC_ar hA h1, ⟨r0, r1, (hA.1 40 (by omega)).trans r2⟩, _, okL_ar hA hl tau_lt⟩ (fun j hj => hA.1 j (by omega))
theorem O_pass {A : AS} {n : Int32} (hO : OK A) : OK (opPass A n).2 := by
  unfold opPass
  by_cases h : bin n 1 1000 = 0
  · rw [if_pos h]; exact hO
  rw [if_neg h]
  by_cases h2 : 9999 < a_s A 76 + n
  · rw [if_pos h2]; exact hO
  rw [if_neg h2]
  obtain ⟨n, n1, n2, rfl⟩ := bin_t1 (b := 1000) (by decide) h
  obtain ⟨hS, ⟨t, t1, t2⟩, ⟨c, c1, c2⟩, h4, h5, h6⟩ := hO.1
  have e : a_s A 76 + nI n = nI (t + n) := by rw [t2, nI_add]
  have ht : t + n ≤ 9999 := by
    rw [e] at h2
    exact (nI_leI (b := 9999) (by omega) (by decide)).mp (Int32.not_lt.mp h2)
  have ne : ∀ j, j ≠ 76 → j ≠ 91 → sU (sU (a_s A) 76 (a_s A 76 + nI n)) 91 (a_s A 91 + nI n) j = a_s A j := fun j a b => (sU_ne _ _ b).trans (sU_ne _ _ a)
  have e76 : sU (sU (a_s A) 76 (a_s A 76 + nI n)) 91 (a_s A 91 + nI n) 76 = a_s A 76 + nI n := (sU_ne _ _ (by decide)).trans (sU_eq _ _ _)
  refine OK_rec hO ⟨okS_cg (fun j hj => ne j (by omega) (by omega)) hS, ⟨t + n, ht, e76.trans e⟩, ⟨c, c1, (ne 77 (by decide) (by decide)).trans c2⟩, fun p hp => ?_, fun p hp => ?_, ?_⟩
  · rw [ne (78 + p) (by omega) (by omega)]; exact h4 p hp
  · rw [ne (254 + 77 * p) (by omega) (by omega)]
    exact (h5 p hp).imp_right (fun q => ⟨q.1, okS_cg (fun j hj => ne _ (by omega) (by omega)) q.2⟩)
  · rw [e76, ne 88 (by decide) (by decide), ne 89 (by decide) (by decide), ne 90 (by decide) (by decide), sU_eq, h6, ← Int32.add_assoc]
theorem O_take {A : AS} {p : Int32} (hO : OK A) : OK (opTake A p).2 := by
  unfold opTake
  by_cases h : bin p 0 1 = 0
  · rw [if_pos h]; exact hO
  rw [if_neg h]
  obtain ⟨p, hp, rfl⟩ := bin_t (b := 1) (by decide) h
  rw [nn_nI (by omega)]
  obtain ⟨hS, ⟨t, t1, t2⟩, ⟨c, c1, c2⟩, h4, h5, h6⟩ := hO.1
  have lo : ∀ j, (j < 254 + 77 * p ∨ 254 + 77 * p + 77 ≤ j) → tks (a_s A) p j = a_s A j := fun j hj => by unfold tks cpw; rw [if_neg (by omega), sU_ne _ _ (by omega)]
  refine OK_rec hO ⟨okS_cg (fun j hj => lo j (by omega)) hS, ⟨t, t1, (lo 76 (by omega)).trans t2⟩, ⟨c, c1, (lo 77 (by omega)).trans c2⟩, fun y hy => ?_, fun y hy => ?_, ?_⟩
  · rw [lo (78 + y) (by omega)]; exact h4 y hy
  · by_cases e : y = p
    · subst e
      refine Or.inr ⟨?_, okS_cg (fun j hj => ?_) hS⟩
      · unfold tks cpw; rw [if_neg (by omega), sU_eq]
      · show tks (a_s A) y (255 + 77 * y + j) = _
        unfold tks cpw; rw [if_pos (by omega), Nat.add_sub_cancel_left]
    · rw [lo (254 + 77 * y) (by omega)]
      exact (h5 y hy).imp_right (fun q => ⟨q.1, okS_cg (fun j hj => lo _ (by omega)) q.2⟩)
  · rw [lo 76 (by omega), lo 88 (by omega), lo 89 (by omega), lo 90 (by omega), lo 91 (by omega)]; exact h6
theorem O_restore {A : AS} {p : Int32} (hO : OK A) : OK (opRestore A p).2 := by
  unfold opRestore
  by_cases h : bin p 0 1 = 0
  · rw [if_pos h]; exact hO
  rw [if_neg h]
  by_cases h2 : a_s A (254 + 77 * nn p) = 0
  · rw [if_pos h2]; exact hO
  rw [if_neg h2]
  obtain ⟨p, hp, rfl⟩ := bin_t (b := 1) (by decide) h
  have e3 : nn (nI p) = p := nn_nI (by omega)
  rw [e3] at h2 ⊢
  have hS := ((hO.1.2.2.2.2.1 p (by omega)).resolve_left h2).2
  exact OK_s hO (okS_cg (fun j hj => cpi_lt hj) hS) (fun j hj => cpi_ge hj)
theorem O_undo {A : AS} (hO : OK A) : OK (opUndo A).2 := by
  unfold opUndo
  by_cases h : a_m A = 0
  · rw [if_pos h]; exact hO
  rw [if_neg h]
  obtain ⟨h1, h2, h3, h4, h5⟩ := hO
  exact ⟨okT_cg (fun j hj => if_pos hj) (h3 (a_m A - 1) (by omega)), by show a_m A - 1 ≤ 5; omega, fun i hi => h3 i (by have : i < a_m A - 1 := hi; omega), h4, h5⟩
theorem O_append {A : AS} {c : Int32} (hO : OK A) : OK (opAppend A c).2 := by
  unfold opAppend
  by_cases h : bin c 1 255 = 0
  · rw [if_pos h]; exact hO
  rw [if_neg h]
  by_cases hn : a_n A = 140
  · rw [if_pos hn]; exact hO
  rw [if_neg hn]
  obtain ⟨c, c1, c2, rfl⟩ := bin_t1 (b := 255) (by decide) h
  obtain ⟨h1, h2, h3, h4, h5⟩ := hO
  refine ⟨h1, h2, h3, by show a_n A + 1 ≤ 140; omega, fun j hj => ?_⟩
  have hj' : j < a_n A + 1 := hj
  show ∃ x : Nat, 1 ≤ x ∧ x ≤ 255 ∧ sU (a_t A) (a_n A) (nI c) j = nI x
  by_cases e : j = a_n A
  · subst e; exact ⟨c, c1, c2, sU_eq _ _ _⟩
  · rw [sU_ne _ _ e]; exact h5 j (by omega)
theorem O_clear {A : AS} (hO : OK A) : OK (opClear A).2 := ⟨hO.1, hO.2.1, hO.2.2.1, Nat.zero_le _, fun j hj => absurd hj (Nat.not_lt_zero j)⟩
/-! items read -/
theorem end_S {t s : SS} {n p : Nat} (h : okS s) : okS (pEnd t n p s).2.2 := h
theorem rdv_b {t : SS} {n p b : Nat} {lo : Int32} (hb : b < 2 ^ 31) (h0 : lo = 0 ∨ lo = 2) (h : rdok t n lo (nI b) (skp t n p)) : ∃ j, j ≤ b ∧ rdv t n p = nI j ∧ (lo = 2 → 2 ≤ j) := by
  have h2 : ¬ bin (rdv t n p) lo (nI b) = 0 := h.2.2
  unfold bin at h2
  by_cases z : lo ≤ rdv t n p ∧ rdv t n p ≤ nI b
  · have hn : ¬ rdv t n p < 0 := fun w => by
      have w1 := Int32.lt_iff_toInt_lt.mp w
      have w2 := Int32.le_iff_toInt_le.mp z.1
      rw [show (0 : Int32).toInt = 0 by decide] at w1
      rcases h0 with rfl | rfl
      · rw [show (0 : Int32).toInt = 0 by decide] at w2; omega
      · rw [show (2 : Int32).toInt = 2 by decide] at w2; omega
    obtain ⟨j, hj, e⟩ := nI_of hn
    rw [e] at z
    exact ⟨j, (nI_leI hj hb).mp z.2, e, fun q => by rw [q] at z; exact (nI_leI (a := 2) (by decide) hj).mp z.1⟩
  · rw [if_neg z] at h2; exact absurd rfl h2
theorem ent_S {t s : SS} {n p pl : Nat} (h : okS s) (hpl : pl ≤ 9) : okS (pEntry t n (nI pl) p s).2.2 := by
  unfold pEntry
  by_cases c : ¬ tkk t n 58 p ∨ s 43 = 16
  · rw [if_pos c]; exact h
  rw [if_neg c]
  unfold pEnt1
  by_cases k : rdok t n 0 7 (skp t n (skp t n p + 1))
  · rw [if_pos k]
    obtain ⟨j, j1, j2, -⟩ := rdv_b (b := 7) (by decide) (Or.inl rfl) k
    unfold pEnt2
    split
    · exact okS_ins h (fun z => c (Or.inr z)) (Nat.le_refl _) rfl hpl j2 j1
    · exact h
  · rw [if_neg k]; exact h
theorem res_S {t s : SS} {n p c : Nat} (h : okS s) (hc : c < 8) : okS (pRes t n c p s).2.2 := by
  unfold pRes
  by_cases k : rdok t n 0 31 (skp t n p)
  · rw [if_pos k]
    obtain ⟨j, j1, j2, -⟩ := rdv_b (b := 31) (by decide) (Or.inl rfl) k
    exact end_S (okS_res h hc j2 j1)
  · rw [if_neg k]; exact h
theorem ris_S {t s : SS} {n p c lv : Nat} {l sg : Int32} (h : okS s) (hc : c < 8) (hl : l = nI lv) (l2 : lv ≤ 4095) (hs : sg = 1 ∨ sg = -1) : okS (pRis t n c l sg p s).2.2 := by
  unfold pRis
  by_cases k : rdok t n 0 64 (skp t n p)
  · rw [if_pos k]
    obtain ⟨j, j1, j2, -⟩ := rdv_b (b := 64) (by decide) (Or.inl rfl) k
    refine end_S (okS_put (k := 1) h hc rfl (by decide) hl l2 ?_ (fun z => absurd z (by decide)) (fun z => absurd z (by decide)))
    rw [j2]
    rcases hs with rfl | rfl
    · rw [Int32.one_mul, nI_toInt (by omega)]; omega
    · rw [Int32.neg_mul, Int32.one_mul, sb_negT (by omega)]; omega
  · rw [if_neg k]; exact h
theorem jmp_S {t s : SS} {n p c lv : Nat} {l : Int32} (h : okS s) (hc : c < 8) (hl : l = nI lv) (l2 : lv ≤ 4095) : okS (pJmp t n c l p s).2.2 := by
  unfold pJmp
  by_cases k : rdok t n 0 4095 (skp t n p)
  · rw [if_pos k]
    obtain ⟨j, j1, j2, -⟩ := rdv_b (b := 4095) (by decide) (Or.inl rfl) k
    unfold pJmp1
    split
    · unfold pJmp2
      by_cases k2 : rdok t n 2 200 (skp t n (tkp t n 47 (rdp t n 0 4095 p)))
      · rw [if_pos k2]
        obtain ⟨y, y1, y2, y3⟩ := rdv_b (b := 200) (by decide) (Or.inr rfl) k2
        exact end_S (okS_put (k := 2) h hc rfl (by decide) hl l2 (by rw [j2]; exact nI_b j1) (fun _ => ⟨j, j1, j2⟩) (fun _ => ⟨y, y3 rfl, y1, y2⟩))
      · rw [if_neg k2]; exact h
    · exact h
  · rw [if_neg k]; exact h
theorem src_S {t s : SS} {n p c : Nat} (h : okS s) (hc : c < 8) : okS (pSrc t n c p s).2.2 := by
  unfold pSrc
  by_cases k : rdok t n 0 4095 (skp t n p)
  · rw [if_pos k]
    obtain ⟨j, j1, j2, -⟩ := rdv_b (b := 4095) (by decide) (Or.inl rfl) k
    unfold pSrc1
    split
    · exact ris_S h hc j2 j1 (Or.inl rfl)
    · unfold pSrc2
      split
      · exact ris_S h hc j2 j1 (Or.inr rfl)
      · unfold pSrc3
        split
        · exact jmp_S h hc j2 j1
        · exact end_S (okS_put (k := 0) h hc rfl (by decide) j2 j1 (by decide) (fun z => absurd z (by decide)) (fun z => absurd z (by decide)))
  · rw [if_neg k]; exact h
theorem item_S {t s : SS} {n p : Nat} (h : okS s) : okS (pItem t n p s).2.2 := by
  unfold pItem
  split
  · exact ent_S (pl := 8) h (by decide)
  · unfold pItem1
    split
    · exact ent_S (pl := 9) h (by decide)
    · unfold pNum
      by_cases k : rdok t n 0 7 (skp t n (tkp t n 102 (tkp t n 103 p)))
      · rw [if_pos k]
        obtain ⟨j, j1, j2, -⟩ := rdv_b (b := 7) (by decide) (Or.inl rfl) k
        have e : nn (rdv t n (tkp t n 102 (tkp t n 103 p))) ≤ 7 := by rw [j2, nn_nI (by omega)]; exact j1
        unfold pItem2
        split
        · exact src_S h (by omega)
        · unfold pItem3
          split
          · exact res_S h (by omega)
          · exact ent_S h (by omega)
      · rw [if_neg k]; exact h
theorem all_S {t : SS} {n : Nat} : ∀ f p s, p ≤ n → okS s → okS (pAll t n f p s).2.2.2 ∧ ∀ j, 76 ≤ j → (pAll t n f p s).2.2.2 j = s j
  | 0, p, s, _, h => ⟨h, fun _ _ => rfl⟩
  | f + 1, p, s, hp, h => by
    by_cases hq : skp t n p < n
    · have hm : okm s := by obtain ⟨-, -, n, hn⟩ := h; exact ⟨n, hn.1, hn.2.1⟩
      have hG := pItem_G (t := t) (n := n) (p := skp t n p) (s := s) (Nat.le_of_lt hq) hm
      have hS := item_S (t := t) (n := n) (p := skp t n p) h
      show okS (if skp t n p < n then _ else _ : Int32 × Nat × Nat × SS).2.2.2 ∧ ∀ j, 76 ≤ j → (if skp t n p < n then _ else _ : Int32 × Nat × Nat × SS).2.2.2 j = s j
      rw [if_pos hq]
      by_cases hr : (pItem t n (skp t n p) s).1 = 0
      · rw [if_pos hr]; exact ⟨hS, hG.2.2.1⟩
      · rw [if_neg hr]
        have ih := all_S (t := t) (n := n) f _ _ hG.1 hS
        exact ⟨ih.1, fun j hj => (ih.2 j hj).trans (hG.2.2.1 j hj)⟩
    · rw [pAll_end hq]; exact ⟨h, fun _ _ => rfl⟩
theorem O_load {A : AS} (hO : OK A) : OK (opLoad A).2 := by
  unfold opLoad
  by_cases h : (pTxt A).1 = 0
  · rw [if_pos h]; exact hO
  rw [if_neg h]
  have hA := all_S (t := a_t A) (n := a_n A) (a_n A) 0 (a_s A) (Nat.zero_le _) hO.1.1
  obtain ⟨r1, r2, r3, -, -⟩ := OK_s (h := a_h A) hO hA.1 hA.2
  exact ⟨r1, r2, r3, Nat.zero_le _, fun j hj => absurd hj (Nat.not_lt_zero j)⟩
/-! scans -/
def slN (s : SS) : Nat → Nat
  | 0 => 0
  | i + 1 => slN s i + (qn s i + 1)
theorem sls_nI {s : SS} {n : Nat} (hl : okL s n) : ∀ i, i ≤ n → sls s i = nI (slN s i) ∧ slN s i ≤ 8 * i
  | 0, _ => ⟨rfl, Nat.le_refl _⟩
  | i + 1, hi => by
    obtain ⟨h1, h2⟩ := sls_nI hl i (by omega)
    obtain ⟨q1, q2⟩ := okL_q hl (show i < n by omega)
    refine ⟨?_, by show slN s i + (qn s i + 1) ≤ _; omega⟩
    show sls s i + (s (45 + 2 * i) + 1) = nI (slN s i + (qn s i + 1))
    rw [h1, q1, nI_1, nI_add]
def scQ (s : SS) (T : Nat) (S : SC) : Prop := sin s S.1 ∧ S.2.1 = T ∧ (∃ cnt, cnt ≤ 32 ∧ S.1 77 = nI cnt) ∧ (∀ p, p < 10 → okr S.1 p) ∧ (∀ j, 254 ≤ j → S.1 j = s j) ∧ nI S.2.1 = S.1 88 + S.1 89 + S.1 90 + S.1 91
theorem qn_in {s s' : SS} {n i : Nat} (h : sin s s') (hn : n ≤ 16) (hi : i < n) : qn s' i = qn s i := by unfold qn; rw [h _ (by omega)]
theorem scQ_E {s : SS} {n T i : Nat} {S : SC} (hl : okL s n) (hi : i < n) (h : scQ s T S) : scQ s (T + (qn s i + 1)) (scE i S) := by
  obtain ⟨h1, h2, ⟨cnt, h3, h4⟩, h5, h6, h7⟩ := h
  have hp := (okL_p (okL_in h1 hl) hi).2
  have hq := qn_in h1 hl.1 hi
  have e1 : nn (S.1 77) = cnt := by rw [h4]; exact nn_nI (by omega)
  have hn3 := nai_3 (pn S.1 i) hp
  have hE : (scE i S).1 = ntS S.1 cnt (pn S.1 i) (qn S.1 i) (nI (S.2.1 + qn S.1 i)) (xr S.1 (pn S.1 i) (qn S.1 i) S.2.1 S.2.2) (xc S.1 (pn S.1 i) (qn S.1 i) S.2.1 S.2.2) (xe S.1 (pn S.1 i) (qn S.1 i) S.2.1 S.2.2) := by
    show ntS S.1 (nn (S.1 77)) _ _ _ _ _ _ = _
    rw [e1]
  have hr : ∃ y : Nat, y ≤ 4095 ∧ xr S.1 (pn S.1 i) (qn S.1 i) S.2.1 S.2.2 = nI y := rdb_ok _ _ _
  unfold scQ
  rw [hE]
  refine ⟨fun j hj => (ntS_in h3 j hj).trans (h1 j hj), ?_, ntS_77 h3 hp, fun p' hp' => ?_, fun j hj => ?_, ?_⟩
  · show S.2.1 + (qn S.1 i + 1) = _; rw [h2, hq]
  · unfold okr
    have ex : ntS S.1 cnt (pn S.1 i) (qn S.1 i) (nI (S.2.1 + qn S.1 i)) (xr S.1 (pn S.1 i) (qn S.1 i) S.2.1 S.2.2) (xc S.1 (pn S.1 i) (qn S.1 i) S.2.1 S.2.2) (xe S.1 (pn S.1 i) (qn S.1 i) S.2.1 S.2.2) (78 + p') = if 78 + p' = 78 + pn S.1 i then xr S.1 (pn S.1 i) (qn S.1 i) S.2.1 S.2.2 else S.1 (78 + p') := by
      rw [ntS_at hp h3 (by omega) (Or.inl (by omega)), if_neg (by omega), if_neg (by omega), if_neg (by omega)]
    rw [ex]
    by_cases c : 78 + p' = 78 + pn S.1 i
    · rw [if_pos c]; exact Or.inr hr
    · rw [if_neg c]; exact h5 p' hp'
  · rw [ntS_at hp h3 (by omega) (Or.inr hj), if_neg (by omega), if_neg (by omega), if_neg (by omega), if_neg (by omega)]; exact h6 j hj
  · show nI (S.2.1 + (qn S.1 i + 1)) = _
    have ev : ∀ x, 88 ≤ x → x ≤ 91 → ntS S.1 cnt (pn S.1 i) (qn S.1 i) (nI (S.2.1 + qn S.1 i)) (xr S.1 (pn S.1 i) (qn S.1 i) S.2.1 S.2.2) (xc S.1 (pn S.1 i) (qn S.1 i) S.2.1 S.2.2) (xe S.1 (pn S.1 i) (qn S.1 i) S.2.1 S.2.2) x = if x = nai (pn S.1 i) then S.1 (nai (pn S.1 i)) + (nI (qn S.1 i) + 1) else S.1 x := fun x a b => by
      rw [ntS_at hp h3 (by omega) (Or.inl (by omega)), if_neg (by omega), if_neg (by omega), if_neg (show ¬ x = 78 + pn S.1 i by omega)]
    rw [ev 88 (by decide) (by decide), ev 89 (by decide) (by decide), ev 90 (by decide) (by decide), ev 91 (by decide) (by decide), ← nI_add, h7, if_neg (show ¬ (91 = nai (pn S.1 i)) by omega)]
    rw [← nI_1 (qn S.1 i)]
    generalize nI (qn S.1 i) + 1 = w
    rcases hn3 with e | e | e
    · rw [e, if_pos rfl, if_neg (by decide), if_neg (by decide)]; ac_rfl
    · rw [e, if_neg (by decide), if_pos rfl, if_neg (by decide)]; ac_rfl
    · rw [e, if_neg (by decide), if_neg (by decide), if_pos rfl]; ac_rfl
theorem scQ_L {s : SS} {n T : Nat} {S : SC} (hl : okL s n) (h : scQ s T S) : ∀ i, i ≤ n → scQ s (T + slN s i) (scL i S)
  | 0, _ => h
  | i + 1, hi => by
    show scQ s (T + (slN s i + (qn s i + 1))) (scE i (scL i S))
    rw [← Nat.add_assoc]
    exact scQ_E hl (show i < n by omega) (scQ_L hl h i (by omega))
theorem scQ_R {s : SS} {n T : Nat} {S : SC} (hl : okL s n) (h : scQ s T S) : ∀ k, scQ s (T + k * slN s n) (scR n k S)
  | 0 => by rw [Nat.zero_mul]; exact h
  | k + 1 => by
    have := scQ_L hl (scQ_R hl h k) n (Nat.le_refl n)
    rw [Nat.succ_mul, ← Nat.add_assoc]; exact this
theorem O_scan {A : AS} {k : Int32} (hO : OK A) : OK (opScan A k).2 := by
  unfold opScan
  by_cases hb : bin k 1 20 = 0
  · rw [if_pos hb]; exact hO
  rw [if_neg hb]
  by_cases hz : a_s A 43 = 0
  · rw [if_pos hz]; exact hO
  rw [if_neg hz]
  by_cases hg : 9999 < a_s A 76 + k * sls (a_s A) (nn (a_s A 43))
  · rw [if_pos hg]; exact hO
  rw [if_neg hg]
  have hl := okL_n hO.1.1
  obtain ⟨hS, ⟨t, t1, t2⟩, ⟨c, c1, c2⟩, h4, h5, h6⟩ := hO.1
  obtain ⟨k, k1, k2, rfl⟩ := bin_t1 (b := 20) (by decide) hb
  have e76 : nn (a_s A 76) = t := by rw [t2]; exact nn_nI (by omega)
  have ek : nn (nI k) = k := nn_nI (by omega)
  rw [e76, ek]
  have h16 := hl.1
  obtain ⟨s1, s2⟩ := sls_nI hl (nn (a_s A 43)) (Nat.le_refl _)
  have hk : k * slN (a_s A) (nn (a_s A 43)) ≤ 20 * 128 := Nat.mul_le_mul k2 (by omega)
  have hT : t + k * slN (a_s A) (nn (a_s A 43)) ≤ 9999 := by
    rw [s1, t2, pk_mul, nI_add] at hg
    exact (nI_leI (b := 9999) (by omega) (by decide)).mp (Int32.not_lt.mp hg)
  have h0 : scQ (a_s A) t (a_s A, t, a_h A) := ⟨fun _ _ => rfl, rfl, ⟨c, c1, c2⟩, h4, fun _ _ => rfl, t2.symm.trans h6⟩
  obtain ⟨q1, q2, ⟨c', q3, q4⟩, q5, q6, q7⟩ := scQ_R hl h0 k
  generalize scR (nn (a_s A 43)) k (a_s A, t, a_h A) = S at q1 q2 q3 q4 q5 q6 q7 ⊢
  have ne : ∀ j, j ≠ 76 → sU S.1 76 (nI S.2.1) j = S.1 j := fun j hj => sU_ne _ _ hj
  refine OK_rec hO ⟨okS_cg (fun j hj => (ne j (by omega)).trans (q1 j hj)) hS, ⟨S.2.1, by omega, sU_eq _ _ _⟩, ⟨c', q3, (ne 77 (by decide)).trans q4⟩, fun p hp => ?_, fun p hp => ?_, ?_⟩
  · rw [ne (78 + p) (by omega)]; exact q5 p hp
  · rw [ne (254 + 77 * p) (by omega), q6 _ (by omega)]
    exact (h5 p hp).imp_right (fun q => ⟨q.1, okS_cg (fun j hj => (ne _ (by omega)).trans (q6 _ (by omega))) q.2⟩)
  · rw [sU_eq, ne 88 (by decide), ne 89 (by decide), ne 90 (by decide), ne 91 (by decide)]; exact q7
