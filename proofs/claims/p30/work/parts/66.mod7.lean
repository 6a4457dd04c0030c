/-! THE CHECK'S OWN CALLS (3): those that change the state -/
section MOD7
variable {G : GP} {Q : Option Value → Sh → Dt → Prop} {d : Dt}
theorem opSet_no {A : AS} {w v : Int32} (h : oset w v = 0) : opSet A w v = (eI, A) := if_pos h
theorem opSet_yes {A : AS} {w v : Int32} (h : ¬ oset w v = 0) : opSet A w v = (a_s A (40 + nn w), rec A (sU (a_s A) (40 + nn w) v) (a_h A)) := if_neg h
theorem oset_0 (v : Int32) : oset 0 v = bin v 0 4095 := by unfold oset; rw [if_pos rfl]
theorem oset_1 (v : Int32) : oset 1 v = bin v 900 1100 := by unfold oset; rw [if_neg (by decide), if_pos rfl]
theorem oset_2 (v : Int32) : oset 2 v = bin v (-100) 100 := by unfold oset; rw [if_neg (by decide), if_neg (by decide), if_pos rfl]
theorem oset_X {w : Int32} (v : Int32) (h0 : ¬ w = 0) (h1 : ¬ w = 1) (h2 : ¬ w = 2) : oset w v = 0 := by unfold oset; rw [if_neg h0, if_neg h1, if_neg h2]
theorem OK.l {A : AS} (h : OK A) : ∃ n, okL (a_s A) n := h.1.1.2.2
theorem OK.c {A : AS} (h : OK A) : ∀ c, c < 8 → okC (a_s A) c := h.1.1.1
theorem bin_e {e : Int32} {n : Nat} (hn : n ≤ 1000) (h : ¬ bin e 0 (nI n - 1) = 0) : ∃ j, j < n ∧ e = nI j := by
  cases n with
  | zero =>
    exfalso; apply h; unfold bin; rw [if_neg]
    rintro ⟨h1, h2⟩
    have h1' := Int32.le_iff_toInt_le.mp h1
    have h2' := Int32.le_iff_toInt_le.mp h2
    have e1 : (nI 0 - 1 : Int32).toInt = -1 := by decide
    have e2 : (0 : Int32).toInt = 0 := by decide
    rw [e1] at h2'; rw [e2] at h1'; omega
  | succ m =>
    rw [nI_pred m] at h
    obtain ⟨j, h1, h2⟩ := bin_t (b := m) (by omega) h
    exact ⟨j, by omega, h2⟩
theorem MM.put {d : Dt} {B : AS} {s s' : SS} {k : Nat} {x : Int32} {h0 : UInt32} (h : MM d (rec B s h0)) (e : sU s k x = s') : MM (u2 d.1 215 k x, d.2) (rec B s' h0) :=
  h.row (A := rec B s h0) (fr.i fr.rfl _ rfl) ((u2_row h.1).trans e)
theorem MM.put' {d : Dt} {s s' : SS} {T : Nat × SS × (Nat → UInt32) × UInt32 × SS × Nat} {k : Nat} {x : Int32} (h : MM d (s, T)) (e : sU s k x = s') : MM (u2 d.1 215 k x, d.2) (s', T) :=
  h.row (A := (s, T)) (fr.i fr.rfl _ rfl) ((u2_row h.1).trans e)
theorem MM.chg {d : Dt} {s v t : SS} {m n : Nat} {c : Nat → UInt32} {h : UInt32} (hM : MM d (s, m, v, c, h, t, n)) (h' : UInt32) : MM (d.1, u2 d.2 214 6 h') (s, m, v, c, h', t, n) := by
  obtain ⟨h1, h2, h3, h4, h5, h6, h7, h8⟩ := hM
  exact ⟨h1, h2, h3, h4, (show u2 d.2 214 6 h' 218 = _ from u2_ne (show 218 ≠ 214 by decide)).trans h5, (show u2 d.2 214 6 h' 214 6 = _ from u2_same), h7, h8⟩
theorem MM.cnt {d : Dt} {s v t : SS} {m n : Nat} {c : Nat → UInt32} {h : UInt32} (hM : MM d (s, m, v, c, h, t, n)) {m' : Nat} {x : Int32} (h' : m' ≤ 5) (e : x = nI m') : MM (u2 d.1 214 5 x, d.2) (s, m', v, c, h, t, n) := by
  obtain ⟨h1, h2, h3, h4, h5, h6, h7, h8⟩ := hM
  exact ⟨(show u2 d.1 214 5 x 215 = _ from u2_ne (show 215 ≠ 214 by decide)).trans h1, h', (show u2 d.1 214 5 x 214 5 = _ from u2_same).trans e, (show u2 d.1 214 5 x 217 = _ from u2_ne (show 217 ≠ 214 by decide)).trans h4, h5, h6, (show u2 d.1 214 5 x 219 = _ from u2_ne (show 219 ≠ 214 by decide)).trans h7, (show u2 d.1 214 5 x 214 8 = _ from u2_oth (show 8 ≠ 5 by decide) 214).trans h8⟩
theorem MM.len {d : Dt} {s v t : SS} {m n : Nat} {c : Nat → UInt32} {h : UInt32} (hM : MM d (s, m, v, c, h, t, n)) {n' : Nat} {x : Int32} (e : x = nI n') : MM (u2 d.1 214 8 x, d.2) (s, m, v, c, h, t, n') := by
  obtain ⟨h1, h2, h3, h4, h5, h6, h7, h8⟩ := hM
  exact ⟨(show u2 d.1 214 8 x 215 = _ from u2_ne (show 215 ≠ 214 by decide)).trans h1, h2, (show u2 d.1 214 8 x 214 5 = _ from u2_oth (show 5 ≠ 8 by decide) 214).trans h3, (show u2 d.1 214 8 x 217 = _ from u2_ne (show 217 ≠ 214 by decide)).trans h4, h5, h6, (show u2 d.1 214 8 x 219 = _ from u2_ne (show 219 ≠ 214 by decide)).trans h7, (show u2 d.1 214 8 x 214 8 = _ from u2_same).trans e⟩
theorem MM.txt {d : Dt} {s v t : SS} {m n : Nat} {c : Nat → UInt32} {h : UInt32} (hM : MM d (s, m, v, c, h, t, n)) {k : Nat} {x : Int32} : MM (u2 d.1 219 k x, d.2) (s, m, v, c, h, sU t k x, n) := by
  obtain ⟨h1, h2, h3, h4, h5, h6, h7, h8⟩ := hM
  exact ⟨(show u2 d.1 219 k x 215 = _ from u2_ne (show 215 ≠ 219 by decide)).trans h1, h2, (show u2 d.1 219 k x 214 5 = d.1 214 5 from congrFun (u2_ne (show 214 ≠ 219 by decide)) 5).trans h3, (show u2 d.1 219 k x 217 = _ from u2_ne (show 217 ≠ 219 by decide)).trans h4, h5, h6, u2_row h7, (show u2 d.1 219 k x 214 8 = d.1 214 8 from congrFun (u2_ne (show 214 ≠ 219 by decide)) 8).trans h8⟩
end MOD7
