/-! THE CLASS: remainders that go down; a state brought back -/
def fml (a b : Int32) : Int32 := if a ^^^ b < 0 ∧ ¬ a - a / b * b = 0 then a - a / b * b + b else a - a / b * b
theorem fml_nI {a k : Nat} (ha : a < 2 ^ 30) (h0 : 0 < k) (hk : k < 2 ^ 30) : fml (nI a) (nI k) = nI (a % k) := by
  unfold fml
  rw [if_neg (fun h => xor_nng (by omega) (by omega) h.1)]
  exact pk_rem (by omega) h0 (by omega)
theorem fml_neg {M k : Nat} (h1 : 0 < M) (hM : M < k) (hk : k < 2 ^ 30) : fml (-nI M) (nI k) = nI (k - M) := by
  have hx : (-nI M) ^^^ nI k < 0 := by
    refine xor_neg ?_ (Int32.not_lt.mpr (nI_le (a := 0) (Nat.zero_le k) (by omega)))
    apply Int32.lt_iff_toInt_lt.mpr
    rw [sb_negT (by omega), show (0 : Int32).toInt = 0 by decide]; omega
  have e : (-nI M) - (-nI M) / nI k * nI k = -nI M := by
    rw [neg_divN (by omega) (by omega) (by omega), Nat.div_eq_of_lt hM]
    rw [show -nI 0 * nI k = 0 from by rw [show -nI 0 = (0 : Int32) from rfl, Int32.zero_mul], Int32.sub_zero]
  unfold fml
  rw [e, if_pos (And.intro hx (fun h => by have := congrArg Int32.toInt h; rw [sb_negT (by omega), show (0 : Int32).toInt = 0 by decide] at this; omega))]
  rw [show -nI M + nI k = nI k - nI M by rw [Int32.add_comm, Int32.sub_eq_add_neg]]
  exact pk_dif (by omega)
theorem fml_5 {nx : Nat} (h : nx < 5) : fml (nI nx - 1) 5 = nI ((nx + 4) % 5) := by
  rcases (show nx = 0 ∨ nx = 1 ∨ nx = 2 ∨ nx = 3 ∨ nx = 4 by omega) with rfl | rfl | rfl | rfl | rfl <;> decide
theorem fml_32 {nx x : Nat} (h : nx < 32) (hx : x < 32) : fml (nI nx - 1 - nI x) 32 = nI ((nx + 31 - x) % 32) := by
  by_cases c : x < nx
  · rw [show nI nx - 1 - nI x = nI (nx - 1 - x) by rw [show nI nx - 1 = nI (nx - 1) from pk_dif (b := 1) (by omega), pk_dif (by omega)], show (32 : Int32) = nI 32 from rfl, fml_nI (by omega) (by decide) (by decide)]
    congr 1; omega
  · have e : nI nx - 1 - nI x = -nI (x + 1 - nx) := by
      apply Int32.toInt_inj.mp
      rw [sb_negT (by omega), Int32.sub_sub, show (1 : Int32) + nI x = nI (x + 1) by rw [Int32.add_comm]; exact nI_1 x, pk_sub_toInt (by omega) (by omega)]
      omega
    rw [e, show (32 : Int32) = nI 32 from rfl]
    by_cases c2 : x + 1 - nx = 32
    · rw [c2]
      have h0 : nx = 0 := by omega
      have h1 : x = 31 := by omega
      subst h0; subst h1; decide
    · rw [fml_neg (by omega) (by omega) (by decide)]
      congr 1; omega
theorem HS_back {d e d' : Dt} {A : AS} {nx m : Nat} (hnx : nx < 5) (hm : a_m A = m + 1) (hm5 : a_m A ≤ 5) (hT : ∀ k, k < a_m A → TR d (34 + 31 * ((nx + 5 - a_m A + k) % 5)) (fun j => a_v A (408 * k + j)) (a_c A k))
    (e0 : fr (stE 1) (stF 1) d e) (hd : ∀ x j, x ≠ 32 → d'.1 x j = e.1 x j) (hd2 : d'.2 = e.2) (h1 : d'.1 32 1 = nI ((nx + 4) % 5)) (h2 : d'.1 32 2 = nI m) (s : SS) (h : UInt32) (t : SS) (n : Nat) : HS d' (s, m, a_v A, a_c A, h, t, n) := by
  refine ⟨(nx + 4) % 5, by omega, h1, h2, by show m ≤ 5; omega, fun k hk => ?_⟩
  have hk' : k < m := hk
  show TR d' (34 + 31 * (((nx + 4) % 5 + 5 - m + k) % 5)) (fun j => a_v A (408 * k + j)) (a_c A k)
  have hT' := hT k (by omega)
  rw [show (nx + 5 - a_m A + k) % 5 = ((nx + 4) % 5 + 5 - m + k) % 5 by omega] at hT'
  exact TR_bk hT' ⟨fun x j h1 h2 => (hd x j (by omega)).trans (e0.1 x j (by show ¬ (_ ∧ _); omega)), fun j => (congrFun (congrFun hd2 _) j).trans (e0.2 _ _ (by show ¬ (_ = _); omega))⟩
