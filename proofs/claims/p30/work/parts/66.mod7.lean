/-! THE CHECK'S OWN CALLS (3): those that change the state -/
section MOD7
variable {G : GP} {Q : Option Value → Sh → Dt → Prop} {d : Dt}
theorem opSet_no {A : AS} {w v : Int32} (h : oset w v = 0) : opSet A w v = (eI, A) := if_pos h
theorem opSet_yes {A : AS} {w v : Int32} (h : ¬ oset w v = 0) : opSet A w v = (a_s A (40 + nn w), rec A (sU (a_s A) (40 + nn w) v) (a_h A)) := if_neg h
theorem oset_0 (v : Int32) : oset 0 v = bin v 0 4095 := by unfold oset; rw [if_pos rfl]
theorem oset_1 (v : Int32) : oset 1 v = bin v 900 1100 := by unfold oset; rw [if_neg (by decide), if_pos rfl]
theorem oset_2 (v : Int32) : oset 2 v = bin v (-100) 100 := by unfold oset; rw [if_neg (by decide), if_neg (by decide), if_pos rfl]
theorem oset_X {w : Int32} (v : Int32) (h0 : ¬ w = 0) (h1 : ¬ w = 1) (h2 : ¬ w = 2) : oset w v = 0 := by unfold oset; rw [if_neg h0, if_neg h1, if_neg h2]
theorem bin_e {e : Int32} {n : Nat} (hn : n ≤ 1000) (h : ¬ bin e 0 (nI n - 1) = 0) : ∃ j, j < n ∧ e = nI j := by
  cases n with
  | zero =>
    exfalso; apply h; unfold bin; rw [if_neg]
    rintro ⟨h1, h2⟩
    have h1' := Int32.le_iff_toInt_le.mp h1
    have h2' := Int32.le_iff_toInt_le.mp h2
    have e1 : (nI 0 - 1 : Int32).toInt = -1 := by decide
    have e2 : (0 : Int32).toInt = 0 := by decide
    rw [e1] at h2'; rw [e2] at h1'; omega
  | succ m =>
    rw [nI_pred m] at h
    obtain ⟨j, h1, h2⟩ := bin_t (b := m) (by omega) h
    exact ⟨j, by omega, h2⟩
end MOD7
