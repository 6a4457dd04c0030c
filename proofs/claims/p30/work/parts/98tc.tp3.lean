/-! THE PROPERTY (3): the law's own calls; what is undone; the digest -/
def lo3 (v n : Int32) : Int32 := (v &&& 2147483647) - (v &&& 2147483647) / n * n
def actL (A : AS) (y : Int32) : Int32 × AS :=
  if y &&& 15 = 0 then opSetSource A (lo3 (y >>> (4 &&& 31)) 8) 0 (lo3 (y * 9) 4096) 0 0
  else if y &&& 15 = 1 then opSetSource A (lo3 (y >>> (4 &&& 31)) 8) 1 (lo3 (y * 9) 4096) (lo3 (y >>> (3 &&& 31)) 129 - 64) 0
  else if y &&& 15 = 2 then opSetSource A (lo3 (y >>> (4 &&& 31)) 8) 2 (lo3 (y * 9) 4096) (lo3 (y * 5) 4096) ((1 : Int32) + lo3 (y >>> (4 &&& 31)) 30)
  else if y &&& 15 = 3 then opSetRes A (lo3 (y >>> (4 &&& 31)) 8) (lo3 (y >>> (5 &&& 31)) 32)
  else if y &&& 15 = 4 then opSet A (lo3 (y >>> (4 &&& 31)) 3) (lo3 (y >>> (3 &&& 31)) 1100)
  else if y &&& 15 = 5 ∨ y &&& 15 = 6 ∨ y &&& 15 = 7 then opAdd A (lo3 (y >>> (4 &&& 31)) 10) (lo3 (y >>> (5 &&& 31)) 8) (lo3 (y >>> (7 &&& 31)) 5)
  else if y &&& 15 = 8 then opRem A (lo3 (y >>> (4 &&& 31)) 6)
  else if y &&& 15 = 9 then opSettle A (lo3 (y >>> (4 &&& 31)) 6) (lo3 (y >>> (6 &&& 31)) 9)
  else if y &&& 15 = 10 then opOrder A (lo3 (y >>> (4 &&& 31)) 4)
  else if y &&& 15 = 11 then opPass A ((1 : Int32) + lo3 (y >>> (4 &&& 31)) 50)
  else if y &&& 15 = 12 then (if y &&& 512 = 0 then opRestore A (lo3 (y >>> (4 &&& 31)) 2) else opTake A (lo3 (y >>> (4 &&& 31)) 2))
  else opScan A ((1 : Int32) + lo3 (y >>> (4 &&& 31)) 3)
theorem lo3_m (v : Int32) : ∃ w : Nat, w < 2 ^ 31 ∧ v &&& 2147483647 = nI w := by
  have h : ¬ (v &&& 2147483647) < 0 := fun z => by
    have z1 := Int32.lt_iff_toInt_lt.mp z
    rw [show (0 : Int32).toInt = 0 by decide] at z1
    have z2 : (v &&& 2147483647).toBitVec.msb = true := by rw [BitVec.msb_eq_toInt]; exact decide_eq_true z1
    rw [Int32.toBitVec_and, BitVec.msb_and] at z2
    rw [show (2147483647 : Int32).toBitVec.msb = false by decide, Bool.and_false] at z2
    cases z2
  obtain ⟨j, hj, e⟩ := nI_of h
  exact ⟨j, hj, e⟩
theorem lo3_nI (v : Int32) {n : Nat} (h1 : 1 ≤ n) (hn : n < 2 ^ 31) : ∃ k, k < n ∧ lo3 v (nI n) = nI k := by
  obtain ⟨w, w1, w2⟩ := lo3_m v
  refine ⟨w % n, Nat.mod_lt _ h1, ?_⟩
  unfold lo3
  rw [w2, pk_div (by omega) (by omega) (by omega), pk_mul, pk_sub (Nat.div_mul_le_self w n)]
  congr 1
  have := Nat.div_add_mod w n
  rw [Nat.mul_comm] at this
  omega
theorem tp_E_mono {f : AS → Int32 × AS} {N N' : Nat} (h : N ≤ N') (hf : tp_E f N) : tp_E f N' := by
  obtain ⟨R, S, H, hF⟩ := hf
  refine ⟨R, S, H, fun A T hI hT => (hF A T hI (by omega)).imp_right (fun z => ⟨z.1, z.2.1, z.2.2.1, z.2.2.2.1, tp_V_mono (by omega) z.2.2.2.2⟩)⟩
theorem tp_act (y : Int32) : tp_E (fun A => actL A y) 384 := by
  unfold actL
  by_cases c0 : y &&& 15 = 0
  · simp only [if_pos c0]; exact tp_E_mono (Nat.zero_le _) (tp_setSource _ _ _ _ _)
  simp only [if_neg c0]
  by_cases c1 : y &&& 15 = 1
  · simp only [if_pos c1]; exact tp_E_mono (Nat.zero_le _) (tp_setSource _ _ _ _ _)
  simp only [if_neg c1]
  by_cases c2 : y &&& 15 = 2
  · simp only [if_pos c2]; exact tp_E_mono (Nat.zero_le _) (tp_setSource _ _ _ _ _)
  simp only [if_neg c2]
  by_cases c3 : y &&& 15 = 3
  · simp only [if_pos c3]; exact tp_E_mono (Nat.zero_le _) (tp_setRes _ _)
  simp only [if_neg c3]
  by_cases c4 : y &&& 15 = 4
  · simp only [if_pos c4]; exact tp_E_mono (Nat.zero_le _) (tp_set _ _)
  simp only [if_neg c4]
  by_cases c5 : y &&& 15 = 5 ∨ y &&& 15 = 6 ∨ y &&& 15 = 7
  · simp only [if_pos c5]; exact tp_E_mono (Nat.zero_le _) (tp_add _ _ _)
  simp only [if_neg c5]
  by_cases c8 : y &&& 15 = 8
  · simp only [if_pos c8]; exact tp_E_mono (Nat.zero_le _) (tp_rem _)
  simp only [if_neg c8]
  by_cases c9 : y &&& 15 = 9
  · simp only [if_pos c9]; exact tp_E_mono (Nat.zero_le _) (tp_settle _ _)
  simp only [if_neg c9]
  by_cases c10 : y &&& 15 = 10
  · simp only [if_pos c10]; exact tp_E_mono (Nat.zero_le _) (tp_order _)
  simp only [if_neg c10]
  by_cases c11 : y &&& 15 = 11
  · simp only [if_pos c11]
    refine tp_pass (fun k hk h1 => ?_)
    obtain ⟨w, w1, w2⟩ := lo3_nI (y >>> (4 &&& 31)) (n := 50) (by decide) (by decide)
    rw [show (50 : Int32) = nI 50 from rfl, w2, Int32.add_comm, nI_1] at hk
    have := (nI_eq (by omega) (by omega)).mp hk
    omega
  simp only [if_neg c11]
  by_cases c12 : y &&& 15 = 12
  · simp only [if_pos c12]
    by_cases c : y &&& 512 = 0
    · simp only [if_pos c]; exact tp_E_mono (Nat.zero_le _) (tp_restore _)
    · simp only [if_neg c]; exact tp_E_mono (Nat.zero_le _) (tp_take _)
  simp only [if_neg c12]
  refine tp_scan (fun k hk h1 => ?_)
  obtain ⟨w, w1, w2⟩ := lo3_nI (y >>> (4 &&& 31)) (n := 3) (by decide) (by decide)
  rw [show (3 : Int32) = nI 3 from rfl, w2, Int32.add_comm, nI_1] at hk
  have := (nI_eq (by omega) (by omega)).mp hk
  omega
theorem O_act {A : AS} {y : Int32} (hO : OK A) : OK (actL A y).2 := by
  unfold actL
  by_cases c0 : y &&& 15 = 0
  · rw [if_pos c0]; exact O_setSource hO
  rw [if_neg c0]
  by_cases c1 : y &&& 15 = 1
  · rw [if_pos c1]; exact O_setSource hO
  rw [if_neg c1]
  by_cases c2 : y &&& 15 = 2
  · rw [if_pos c2]; exact O_setSource hO
  rw [if_neg c2]
  by_cases c3 : y &&& 15 = 3
  · rw [if_pos c3]; exact O_setRes hO
  rw [if_neg c3]
  by_cases c4 : y &&& 15 = 4
  · rw [if_pos c4]; exact O_set hO
  rw [if_neg c4]
  by_cases c5 : y &&& 15 = 5 ∨ y &&& 15 = 6 ∨ y &&& 15 = 7
  · rw [if_pos c5]; exact O_add hO
  rw [if_neg c5]
  by_cases c8 : y &&& 15 = 8
  · rw [if_pos c8]; exact O_rem hO
  rw [if_neg c8]
  by_cases c9 : y &&& 15 = 9
  · rw [if_pos c9]; exact O_settle hO
  rw [if_neg c9]
  by_cases c10 : y &&& 15 = 10
  · rw [if_pos c10]; exact O_order hO
  rw [if_neg c10]
  by_cases c11 : y &&& 15 = 11
  · rw [if_pos c11]; exact O_pass hO
  rw [if_neg c11]
  by_cases c12 : y &&& 15 = 12
  · rw [if_pos c12]
    by_cases c : y &&& 512 = 0
    · rw [if_pos c]; exact O_restore hO
    · rw [if_neg c]; exact O_take hO
  rw [if_neg c12]
  exact O_scan hO
/-- a call undone: the state and the charge are what they were -/
theorem tp_undo {A : AS} {s : SS} {h : UInt32} (h5 : a_m A ≤ 5) (hs : ∀ j, 408 ≤ j → s j = a_s A j) : (opUndo (rec A s h)).1 = nI (hm (a_m A)) ∧ a_s (opUndo (rec A s h)).2 = a_s A ∧ a_h (opUndo (rec A s h)).2 = a_h A ∧ a_n (opUndo (rec A s h)).2 = a_n A := by
  have e : a_m (rec A s h) = hm (a_m A) + 1 := rfl
  unfold opUndo
  rw [if_neg (by rw [e]; omega), e, Nat.add_sub_cancel]
  refine ⟨rfl, ?_, ?_, rfl⟩
  · funext j
    show cpr (fun j => hsv2 (a_m A) (a_v A) (a_s A) (408 * hm (a_m A) + j)) s j = a_s A j
    unfold cpr
    by_cases hj : j < 408
    · rw [if_pos hj]; exact hsv2_new hj
    · rw [if_neg hj]; exact hs j (by omega)
  · show hsc2 (a_m A) (a_c A) (a_h A) (hm (a_m A)) = a_h A
    exact hsc2_new
theorem tp_hm {m : Nat} (h : m ≤ 5) : hm m ≤ 4 := by unfold hm; split <;> omega
/-- the digest -/
def dg1 (A : AS) : Nat → Int64
  | 0 => 7
  | k + 1 => if k = 8 ∨ k = 9 then dg1 A k else 31 * dg1 A k + (vCount A (nI k)).toInt64
def dgc (A : AS) (c : Nat) (h : Int64) : Nat → Int64
  | 0 => h
  | w + 1 => 31 * dgc A c h w + (vChannel A (nI c) (nI w)).toInt64
def dg2 (A : AS) (h : Int64) : Nat → Int64
  | 0 => h
  | c + 1 => dgc A c (dg2 A h c) 8
def dg3 (A : AS) (h : Int64) : Nat → Int64
  | 0 => h
  | k + 1 => 31 * (31 * dg3 A h k + (vEntry A (nI k) 0).toInt64) + (vEntry A (nI k) 1).toInt64
def dgs (A : AS) (k : Nat) (h : Int64) : Nat → Int64
  | 0 => h
  | w + 1 => 31 * dgs A k h w + (vSample A (nI k) (nI w)).toInt64
def dg4 (A : AS) (h : Int64) : Nat → Int64
  | 0 => h
  | k + 1 => dgs A k (dg4 A h k) 5
def dg5 (A : AS) (h : Int64) : Nat → Int64
  | 0 => h
  | w + 1 => 31 * dg5 A h w + (vAccount A (nI w)).toInt64
def dgF (A : AS) : Int64 := 31 * dg5 A (dg4 A (dg3 A (dg2 A (dg1 A 13) 8) 16) 32) 7 + (vHeld A 2).toInt64
theorem dgF_cg {A B : AS} (hs : a_s A = a_s B) (hh : a_h A = a_h B) : dgF A = dgF B := by
  have e1 : ∀ k, k ≤ 13 → dg1 A k = dg1 B k := by
    intro k
    induction k with
    | zero => intro _; rfl
    | succ k ih =>
      intro hk
      show (if k = 8 ∨ k = 9 then _ else _) = (if k = 8 ∨ k = 9 then _ else _)
      rw [ih (by omega)]
      by_cases c : k = 8 ∨ k = 9
      · rw [if_pos c, if_pos c]
      · rw [if_neg c, if_neg c]
        have n8 : ¬ nI k = 8 := fun z => c (Or.inl ((nI_eq (b := 8) (by omega) (by decide)).mp z))
        have n9 : ¬ nI k = 9 := fun z => c (Or.inr ((nI_eq (b := 9) (by omega) (by decide)).mp z))
        have : vCount A (nI k) = vCount B (nI k) := by
          unfold vCount
          rw [hs, if_neg n8, if_neg n9, if_neg n8, if_neg n9]
        rw [this]
  have e2 : ∀ c h w, dgc A c h w = dgc B c h w := by
    intro c h w
    induction w with
    | zero => rfl
    | succ w ih =>
      show 31 * dgc A c h w + _ = 31 * dgc B c h w + _
      rw [ih, show vChannel A (nI c) (nI w) = vChannel B (nI c) (nI w) by unfold vChannel; rw [hs]]
  have e3 : ∀ h c, dg2 A h c = dg2 B h c := by
    intro h c
    induction c with
    | zero => rfl
    | succ c ih => show dgc A c (dg2 A h c) 8 = dgc B c (dg2 B h c) 8; rw [ih, e2]
  have e4 : ∀ h k, dg3 A h k = dg3 B h k := by
    intro h k
    induction k with
    | zero => rfl
    | succ k ih =>
      show 31 * (31 * dg3 A h k + _) + _ = 31 * (31 * dg3 B h k + _) + _
      rw [ih, show vEntry A (nI k) 0 = vEntry B (nI k) 0 by unfold vEntry; rw [hs], show vEntry A (nI k) 1 = vEntry B (nI k) 1 by unfold vEntry; rw [hs]]
  have e5 : ∀ k h w, dgs A k h w = dgs B k h w := by
    intro k h w
    induction w with
    | zero => rfl
    | succ w ih =>
      show 31 * dgs A k h w + _ = 31 * dgs B k h w + _
      rw [ih, show vSample A (nI k) (nI w) = vSample B (nI k) (nI w) by unfold vSample; rw [hs]]
  have e6 : ∀ h k, dg4 A h k = dg4 B h k := by
    intro h k
    induction k with
    | zero => rfl
    | succ k ih => show dgs A k (dg4 A h k) 5 = dgs B k (dg4 B h k) 5; rw [ih, e5]
  have e7 : ∀ h w, dg5 A h w = dg5 B h w := by
    intro h w
    induction w with
    | zero => rfl
    | succ w ih =>
      show 31 * dg5 A h w + _ = 31 * dg5 B h w + _
      rw [ih, show vAccount A (nI w) = vAccount B (nI w) by unfold vAccount; rw [hs]]
  unfold dgF
  rw [e1 13 (Nat.le_refl _), e3, e4, e6, e7, show vHeld A 2 = vHeld B 2 by unfold vHeld; rw [hs, hh]]
/-- the state behind a turn's call, and behind it undone and made again -/
theorem tp_turn {A : AS} {T : Nat} (y : Int32) (hI : tp_I A T) (hT : T + 384 ≤ 9999) :
    ((actL A y).1 ≤ -10000001 ∧ (actL A y).2 = A) ∨
    (¬ (actL A y).1 ≤ -10000001 ∧ tp_I (actL A y).2 (T + 384) ∧
      ¬ (opUndo (actL A y).2).1 < 0 ∧ tp_I (opUndo (actL A y).2).2 T ∧ dgF (opUndo (actL A y).2).2 = dgF A ∧
      (actL (opUndo (actL A y).2).2 y).1 = (actL A y).1 ∧ dgF (actL (opUndo (actL A y).2).2 y).2 = dgF (actL A y).2 ∧ tp_I (actL (opUndo (actL A y).2).2 y).2 (T + 384)) := by
  obtain ⟨R, S, H, hF⟩ := tp_act y
  rcases hF A T hI hT with ⟨h1, h2, h3⟩ | ⟨h1, h2, h3, h4, h5⟩
  · left; exact ⟨by rw [show (actL A y).1 = _ from h1]; exact h3, h2⟩
  · right
    have g1 : (actL A y).1 = _ := h1
    have g2 : (actL A y).2 = _ := h2
    have h5m := hI.1.2.1
    obtain ⟨u1, u2, u3, u4⟩ := tp_undo (A := A) (s := S (a_s A) (a_h A)) (h := H (a_s A) (a_h A)) h5m h4
    have hOu : OK (opUndo (rec A (S (a_s A) (a_h A)) (H (a_s A) (a_h A)))).2 := by rw [← g2]; exact O_undo (O_act hI.1)
    have hIu : tp_I (opUndo (rec A (S (a_s A) (a_h A)) (H (a_s A) (a_h A)))).2 T := ⟨hOu, u4.trans hI.2.1, by rw [u2]; exact hI.2.2⟩
    have hO1 : OK (actL A y).2 := O_act hI.1
    have hI1 : tp_I (actL A y).2 (T + 384) := ⟨hO1, by rw [g2]; exact hI.2.1, by rw [g2]; exact h5⟩
    have hO3 : OK (actL (opUndo (rec A (S (a_s A) (a_h A)) (H (a_s A) (a_h A)))).2 y).2 := O_act hOu
    have k := hF _ T hIu hT
    rw [u2, u3] at k
    obtain ⟨k1, k2, -, -, -⟩ := k.resolve_left (fun z => h3 z.2.2)
    have k1 : (actL _ y).1 = _ := k1
    have k2 : (actL _ y).2 = _ := k2
    refine ⟨by rw [g1]; exact h3, hI1, ?_, ?_, ?_, ?_, ?_, ?_⟩
    · rw [g2, u1]; exact nI_pos (by have := tp_hm h5m; omega)
    · rw [g2]; exact hIu
    · rw [g2]; exact dgF_cg u2 u3
    · rw [g2, k1, g1]
    · rw [g2, k2]; exact dgF_cg rfl rfl
    · rw [g2]
      refine ⟨hO3, ?_, ?_⟩
      · rw [k2]; exact u4.trans hI.2.1
      · rw [k2]; exact h5
