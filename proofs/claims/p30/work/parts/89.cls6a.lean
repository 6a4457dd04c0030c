/-! THE CLASS: the history kept -/
theorem hsv2_new {m : Nat} {sv s : SS} {j : Nat} (hj : j < 408) : hsv2 m sv s (408 * hm m + j) = s j := by
  unfold hsv2 cpw; rw [if_pos (by omega)]; congr 1; omega
theorem hsv2_old {m : Nat} {sv s : SS} {k j : Nat} (h5 : m ≤ 5) (hk : k < hm m) (hj : j < 408) : hsv2 m sv s (408 * k + j) = sv (408 * (if m = 5 then k + 1 else k) + j) := by
  unfold hsv2 cpw
  rw [if_neg (by omega)]
  unfold hsv
  unfold hm at hk
  by_cases c : m = 5
  · rw [if_pos c] at hk ⊢
    rw [if_pos c, if_pos (by omega)]; congr 1; omega
  · rw [if_neg c, if_neg c]
theorem hsc2_new {m : Nat} {sc : Nat → UInt32} {h : UInt32} : hsc2 m sc h (hm m) = h := by unfold hsc2; rw [if_pos rfl]
theorem hsc2_old {m : Nat} {sc : Nat → UInt32} {h : UInt32} {k : Nat} (hk : k < hm m) : hsc2 m sc h k = sc (if m = 5 then k + 1 else k) := by
  unfold hsc2; rw [if_neg (by omega)]
  unfold hsc
  unfold hm at hk
  by_cases c : m = 5
  · rw [if_pos c] at hk ⊢
    rw [if_pos c, if_pos hk]
  · rw [if_neg c, if_neg c]
theorem st_mem {i : Nat} (h : i < 5) : 34 + 31 * i ∈ stL := by
  rcases (show i = 0 ∨ i = 1 ∨ i = 2 ∨ i = 3 ∨ i = 4 by omega) with rfl | rfl | rfl | rfl | rfl <;> decide
theorem HS_keep {d e d' : Dt} {A : AS} {nx : Nat} (hnx : nx < 5) (hm5 : a_m A ≤ 5) (hT : ∀ k, k < a_m A → TR d (34 + 31 * ((nx + 5 - a_m A + k) % 5)) (fun j => a_v A (408 * k + j)) (a_c A k))
    (e0 : fr (stE (34 + 31 * nx)) (stF (34 + 31 * nx)) d e) (eT : TR e (34 + 31 * nx) (a_s A) (a_h A)) (hd : ∀ x j, x ≠ 32 → d'.1 x j = e.1 x j) (hd2 : d'.2 = e.2) (h1 : d'.1 32 1 = nI ((nx + 1) % 5)) (h2 : d'.1 32 2 = nI (hm (a_m A) + 1)) : HS d' (rec A (a_s A) (a_h A)) := by
  have hmm : hm (a_m A) ≤ 4 := by unfold hm; split <;> omega
  refine ⟨(nx + 1) % 5, by omega, h1, h2, by show hm _ + 1 ≤ 5; omega, fun k hk => ?_⟩
  show TR d' (34 + 31 * (((nx + 1) % 5 + 5 - (hm (a_m A) + 1) + k) % 5)) (fun j => hsv2 (a_m A) (a_v A) (a_s A) (408 * k + j)) (hsc2 (a_m A) (a_c A) (a_h A) k)
  have hk' : k < hm (a_m A) + 1 := hk
  by_cases c : k = hm (a_m A)
  · subst c
    rw [show ((nx + 1) % 5 + 5 - (hm (a_m A) + 1) + hm (a_m A)) % 5 = nx by omega, hsc2_new]
    refine TR_cg (TR_bk eT ⟨fun x j h1 h2 => hd x j (by omega), fun j => congrFun (congrFun hd2 _) j⟩) (fun j hj => hsv2_new hj)
  · have hk2 : k < hm (a_m A) := by omega
    rw [hsc2_old hk2]
    have hlt : (if a_m A = 5 then k + 1 else k) < a_m A := by
      unfold hm at hk2; split at hk2 <;> split <;> omega
    have hix : (nx + 5 - a_m A + (if a_m A = 5 then k + 1 else k)) % 5 = ((nx + 1) % 5 + 5 - (hm (a_m A) + 1) + k) % 5 := by
      unfold hm at hk2 ⊢; split at hk2 <;> split <;> omega
    have hne : ((nx + 1) % 5 + 5 - (hm (a_m A) + 1) + k) % 5 ≠ nx := by
      unfold hm at hk2 ⊢; split at hk2 <;> split <;> omega
    have hT' := hT _ hlt
    rw [hix] at hT'
    generalize ((nx + 1) % 5 + 5 - (hm (a_m A) + 1) + k) % 5 = y at hT' hne ⊢
    refine TR_cg (TR_bk hT' ⟨fun x j h1 h2 => (hd x j (by omega)).trans (e0.1 x j (by omega)), fun j => (congrFun (congrFun hd2 _) j).trans (e0.2 _ _ (by show ¬ (_ = _); omega))⟩) (fun j hj => hsv2_old hm5 hk2 hj)
theorem min5 {m : Nat} (h : m ≤ 5) : (if (5 : Int32) < nI (m + 1) then 5 else nI (m + 1)) = nI (hm m + 1) := by
  unfold hm
  by_cases c : m = 5
  · subst c; rfl
  · rw [if_neg c, if_neg (show ¬ (5 : Int32) < nI (m + 1) from Int32.not_lt.mpr (nI_le (b := 5) (by omega) (by decide)))]
abbrev kpE (x _j : Nat) : Prop := 32 ≤ x ∧ x ≤ 188
theorem OK.sn {A : AS} (h : OK A) : (a_s A 254 = 0 ∨ a_s A 254 = 1) ∧ (a_s A 331 = 0 ∨ a_s A 331 = 1) :=
  ⟨(h.1.2.2.2.2.1 0 (by decide)).imp_right (fun q => q.1), (h.1.2.2.2.2.1 1 (by decide)).imp_right (fun q => q.1)⟩
