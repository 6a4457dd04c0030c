/-! THE CLASS: divisions that go down; setups copied; values -/
theorem neg_divN {w k : Nat} (hw : w < 2 ^ 31) (h0 : 0 < k) (hk : k < 2 ^ 31) : (-nI w) / nI k = -nI (w / k) := by
  apply Int32.toInt_inj.mp
  have hle : w / k ≤ w := Nat.div_le_self w k
  rw [Int32.toInt_div, sb_negT hw, nI_toInt hk, sb_negT (by omega), Int.neg_tdiv, Int.tdiv_eq_ediv_of_nonneg (by omega)]
  have e : (w : Int) / (k : Int) = ((w / k : Nat) : Int) := (Int.natCast_ediv w k).symm
  rw [e]
  generalize w / k = q at hle ⊢
  exact Int.bmod_eq_of_le (by omega) (by omega)
theorem xor_neg {a b : Int32} (ha : a < 0) (hb : ¬ b < 0) : a ^^^ b < 0 := by
  have z : (0 : Int32).toInt = 0 := by decide
  have ha' := Int32.lt_iff_toInt_lt.mp ha
  have hb' : ¬ b.toInt < (0 : Int32).toInt := fun h => hb (Int32.lt_iff_toInt_lt.mpr h)
  rw [z] at ha' hb'
  apply Int32.lt_iff_toInt_lt.mpr
  rw [z]
  have h1 : (a ^^^ b).toBitVec.msb = true := by
    rw [Int32.toBitVec_xor, BitVec.msb_xor, BitVec.msb_eq_toInt, BitVec.msb_eq_toInt]
    rw [show a.toBitVec.toInt = a.toInt from rfl, show b.toBitVec.toInt = b.toInt from rfl]
    rw [decide_eq_true ha', decide_eq_false hb']; rfl
  rw [BitVec.msb_eq_toInt] at h1
  exact of_decide_eq_true h1
theorem xor_nng {a b : Nat} (ha : a < 2 ^ 31) (hb : b < 2 ^ 31) : ¬ nI a ^^^ nI b < 0 := by
  have z : (0 : Int32).toInt = 0 := by decide
  intro h
  have h1 := Int32.lt_iff_toInt_lt.mp h
  rw [z] at h1
  have h2 : (nI a ^^^ nI b).toBitVec.msb = true := by rw [BitVec.msb_eq_toInt]; exact decide_eq_true h1
  rw [Int32.toBitVec_xor, BitVec.msb_xor, BitVec.msb_eq_toInt, BitVec.msb_eq_toInt] at h2
  rw [show (nI a).toBitVec.toInt = (nI a).toInt from rfl, show (nI b).toBitVec.toInt = (nI b).toInt from rfl, nI_toInt ha, nI_toInt hb] at h2
  rw [decide_eq_false (by omega), decide_eq_false (by omega)] at h2
  exact absurd h2 (by decide)
theorem div_up {M k : Nat} (h0 : 0 < k) : (k - 1 + M) / k = if M % k = 0 then M / k else M / k + 1 := by
  have e := Nat.div_add_mod M k
  have hr := Nat.mod_lt M h0
  have e2 : k - 1 + M = (k - 1 + M % k) + k * (M / k) := by omega
  rw [e2, Nat.add_mul_div_left _ _ h0]
  by_cases c : M % k = 0
  · rw [if_pos c, Nat.div_eq_of_lt (by omega)]; omega
  · rw [if_neg c]
    have : (k - 1 + M % k) / k = 1 := Nat.div_eq_of_lt_le (by omega) (by omega)
    omega
def fdl (a b : Int32) : Int32 := if a ^^^ b < 0 ∧ ¬ a / b * b = a then a / b - 1 else a / b
theorem fdl_dwn {a : Int32} {k : Nat} (h0 : 0 < k) (hk : k < 2 ^ 30) (ha : -(2 ^ 30 : Int) ≤ a.toInt) : fdl a (nI k) = dwn a (nI k) := by
  have z : (0 : Int32).toInt = 0 := by decide
  by_cases hn : a < 0
  · have hn' := Int32.lt_iff_toInt_lt.mp hn
    rw [z] at hn'
    obtain ⟨M, hM⟩ : ∃ M : Nat, (M : Int) = -a.toInt := ⟨(-a.toInt).toNat, by omega⟩
    have hMb : M < 2 ^ 31 := by omega
    have ea : a = -nI M := Int32.toInt_inj.mp (by rw [sb_negT hMb]; omega)
    have hx : a ^^^ nI k < 0 := xor_neg hn (Int32.not_lt.mpr (nI_le (a := 0) (Nat.zero_le k) (by omega)))
    have eq1 : a / nI k = -nI (M / k) := by rw [ea]; exact neg_divN hMb h0 (by omega)
    have hle : M / k ≤ M := Nat.div_le_self M k
    have emul : M / k * k ≤ M := Nat.div_mul_le_self M k
    have eq2 : a / nI k * nI k = -nI (M / k * k) := by rw [eq1, Int32.neg_mul, pk_mul]
    have eq3 : (a / nI k * nI k = a) ↔ M % k = 0 := by
      rw [eq2, ea]
      have e := Nat.div_add_mod' M k
      constructor
      · intro h
        have h1 := congrArg Int32.toInt h
        rw [sb_negT (by omega), sb_negT hMb] at h1
        omega
      · intro h
        congr 2; omega
    have eq4 : dwn a (nI k) = -nI ((k - 1 + M) / k) := by
      unfold dwn
      rw [if_pos hn, show nI k - 1 = nI (k - 1) from pk_sub (b := 1) h0, ea, Int32.sub_neg, nI_add, pk_div (by omega) h0 (by omega)]
    rw [eq4, div_up h0]
    unfold fdl
    by_cases c : M % k = 0
    · rw [if_neg (fun h => h.2 (eq3.mpr c)), if_pos c, eq1]
    · rw [if_pos (And.intro hx (fun h => c (eq3.mp h))), if_neg c, eq1, ← nI_1, Int32.neg_add, Int32.sub_eq_add_neg]
  · obtain ⟨m, hm, rfl⟩ := nI_of hn
    unfold fdl dwn
    rw [if_neg hn, if_neg (fun h => xor_nng hm (by omega) h.1)]
/-- two setups lie apart -/
theorem su_far {a b : Nat} (ha : a ∈ suL) (hb : b ∈ suL) (h : a ≠ b) : a + 7 ≤ b ∨ b + 7 ≤ a := (show ∀ a ∈ suL, ∀ b ∈ suL, a ≠ b → a + 7 ≤ b ∨ b + 7 ≤ a by decide +kernel) a ha b hb h
def sucp (d : Dt) (a b : Nat) : Dt := d_cpy (d_cpy (d_cpy d (b + 2) (a + 2) 0 0 40) (b + 4) (a + 4) 0 0 32) (b + 6) (a + 6) 0 0 3
theorem sucp_fr {d : Dt} {a b : Nat} {x : Int32} : fr (suE a) nE d (u2 (sucp d a b).1 a 3 x, (sucp d a b).2) := by
  suffices h0 : fr (suE a) nE d (sucp d a b) from
    h0.i _ (Or.inr (Or.inr (Or.inr (And.intro rfl rfl))))
  refine ⟨fun y j hy => ?_, fun _ _ _ => rfl⟩
  have h1 : y ≠ a + 2 := fun h => hy (Or.inl h)
  have h2 : y ≠ a + 4 := fun h => hy (Or.inr (Or.inl h))
  have h3 : y ≠ a + 6 := fun h => hy (Or.inr (Or.inr (Or.inl h)))
  unfold sucp
  rw [cpy_ne h3, cpy_ne h2, cpy_ne h1]
theorem SR.cpy {d : Dt} {a b : Nat} {s : SS} {x : Int32} (hf : a + 7 ≤ b ∨ b + 7 ≤ a) (h : SR d b s) (hx : x = s 43) : SR (u2 (sucp d a b).1 a 3 x, (sucp d a b).2) a s := by
  refine ⟨fun j hj => ?_, fun j hj => ?_, fun j hj => ?_, u2_same.trans hx⟩
  · show u2 (sucp d a b).1 a 3 x (a + 2) j = _
    rw [u2_ne (show a + 2 ≠ a by omega)]; unfold sucp
    rw [cpy_ne (show a + 2 ≠ a + 6 by omega), cpy_ne (show a + 2 ≠ a + 4 by omega), cpy_at hj]
    exact h.1 j hj
  · show u2 (sucp d a b).1 a 3 x (a + 4) j = _
    rw [u2_ne (show a + 4 ≠ a by omega)]; unfold sucp
    rw [cpy_ne (show a + 4 ≠ a + 6 by omega), cpy_at hj, cpy_ne (show b + 4 ≠ a + 2 by omega)]
    exact h.2.1 j hj
  · show u2 (sucp d a b).1 a 3 x (a + 6) j = _
    rw [u2_ne (show a + 6 ≠ a by omega)]; unfold sucp
    rw [cpy_at hj, cpy_ne (show b + 6 ≠ a + 4 by omega), cpy_ne (show b + 6 ≠ a + 2 by omega)]
    exact h.2.2.1 j hj
theorem sucp_3 {d : Dt} {a b : Nat} (hf : a + 7 ≤ b ∨ b + 7 ≤ a) : (sucp d a b).1 b 3 = d.1 b 3 := by
  unfold sucp
  rw [cpy_ne (show b ≠ a + 6 by omega), cpy_ne (show b ≠ a + 4 by omega), cpy_ne (show b ≠ a + 2 by omega)]
