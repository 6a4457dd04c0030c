/-! THE LAW: an outside array read; its machine; its fixed facts -/
/-- the script: at an outside address, of L ints xs -/
def SCR (G : GP) (L : Nat) (xs : Nat → Int32) : Prop := G.2.2.1 4 < g_bs G ∧ ∃ scr : Cell, (g_H G)[G.2.2.1 4]? = some scr ∧ scr.cls = G.2.2.1 5 ∧ (∀ k, scr.vm ≠ .statics k) ∧ scr.vm ≠ .unknown ∧ scr.slots.size = L ∧ ∀ j, j < L → scr.slots[j]? = some (.int (xs j))
section LAWR
variable {G : GP} {Y : MD} {pc pc' : Nat} {lo : List (Option Value)} {st : List Value} {σ : Sh} {d : Dt} {u : Nat × Nat} {Q : Option Value → Sh → Dt → Prop} {L : Nat} {xs : Nat → Int32}
theorem scr_arr {s : State} {d0 : Drawn} {scr : Cell} (h : ArrOfT s (G.2.2.1 5) .int) (h2 : scr.cls = G.2.2.1 5) (h3 : ∀ k, scr.vm ≠ .statics k) : (s.setDrawn d0).isArrayOf scr .int := by
  obtain ⟨k, hk, comp, hc⟩ := (h 0 (fun _ => .null)).2
  refine ⟨h3, k, ?_, comp, hc⟩
  show s.vm.classes[scr.cls]? = some k
  rw [h2]; exact hk
theorem m_salen {x : UInt64} {v : Int32} (hs : SCR G L xs) (hd : decode (y_cc Y) pc = .ok (.arraylength, 1)) (hv : Int32.ofNat L = v) (hp : pc + 1 = pc') (kk : mM G Y pc' lo (.int v :: st) σ d u Q) : mM G Y pc lo (.double x :: st) σ d u Q := by
  subst hp
  intro p e s m args below meth cd C d0 hd0 H locs ls str hH hL hlo hst
  obtain ⟨rx, _, rfl, hx, hst⟩ := hst
  obtain rfl : rx = Value.ref (G.2.2.1 4) := hx
  obtain ⟨hb, scr, h1, h2, h3, h4, h5, h6⟩ := hs
  have hk := C.2.2.2.2.2.2.2.1.2.2.2
  refine W.alen (n := Int32.ofNat L) C.1 C.2.1 (by rw [hH.2.1 _ hb]; exact h1) (scr_arr hk h2 h3) (by rw [h5] <;> rfl) rfl rfl hd ?_
  rw [hv]
  exact kk p e s m args below meth cd C d0 hd0 H locs ls _ hH hL hlo ⟨_, _, rfl, rfl, hst⟩
theorem m_siald {x : UInt64} {i : Int32} {j : Nat} (hs : SCR G L xs) (hd : decode (y_cc Y) pc = .ok (.iaload, 1)) (hi : i = nI j) (hj : j < L) (hL31 : L < 2 ^ 31) (hp : pc + 1 = pc') (kk : mM G Y pc' lo (.int (xs j) :: st) σ d u Q) : mM G Y pc lo (.int i :: .double x :: st) σ d u Q := by
  subst hp; subst hi
  intro p e s m args below meth cd C d0 hd0 H locs ls str hH hL hlo hst
  obtain ⟨ri, _, rfl, hx0, rx, _, rfl, hx, hst⟩ := hst
  obtain rfl := vR_int hx0
  obtain rfl : rx = Value.ref (G.2.2.1 4) := hx
  obtain ⟨hb, scr, h1, h2, h3, h4, h5, h6⟩ := hs
  have hk := C.2.2.2.2.2.2.2.1.2.2.2
  refine W.iald (v := .int (xs j)) C.1 C.2.1 (by rw [hH.2.1 _ hb]; exact h1) (scr_arr hk h2 h3) h4 (by rw [h5]; exact vp_in_nI hj hL31) (by rw [nI_clamp (by omega)]; exact h6 j hj) rfl rfl hd ?_
  exact kk p e s m args below meth cd C d0 hd0 H locs ls _ hH hL hlo ⟨_, _, rfl, rfl, hst⟩
theorem m_xload_n {i : Fin 4} {x : UInt64} (hd : decode (y_cc Y) pc = .ok (.aload_n i, 1)) (hl : lo[i.val]? = some (some (.double x))) (hp : pc + 1 = pc') (k : mM G Y pc' lo (.double x :: st) σ d u Q) : mM G Y pc lo st σ d u Q := by
  subst hp
  intro p e s m args below meth c C d0 hd0 H locs ls str hH hL hlo hst
  obtain ⟨r, hr, hv⟩ := mL_at hlo hl
  obtain rfl : r = Value.ref (G.2.2.1 4) := hv
  exact lv_aload_n C.1 C.2.1 hd rfl hr (k p e s m args below meth c C d0 hd0 H locs ls _ hH hL hlo ⟨_, _, rfl, rfl, hst⟩)
end LAWR
/-- the memory behind the constructor -/
def bL0 : Nat → VC := bn (fun _ => fsh 0 0) 0 (fsh 10 0)
def bLw : Nat → VC := bo bL0 0 (bX10_18 (0 + 0))
theorem bL_33 : (bLw 33).2.2.1 = fun j => if j = 4 then some 158 else if j = 3 then some 127 else if j = 2 then some 96 else if j = 1 then some 65 else if j = 0 then some 34 else none := rfl
theorem rf_33 : S1.2.2.2.1 33 = fun j => if j = 4 then some 158 else if j = 3 then some 127 else if j = 2 then some 96 else if j = 1 then some 65 else if j = 0 then some 34 else none := by
  funext j
  match j with
  | 0 => rfl
  | 1 => rfl
  | 2 => rfl
  | 3 => rfl
  | 4 => rfl
  | n + 5 => rw [if_neg (by omega), if_neg (by omega), if_neg (by omega), if_neg (by omega), if_neg (by omega)]; rfl
set_option maxRecDepth 100000 in
theorem bL_sh : ∀ k, k < 214 → (bLw k).1 = S1.2.1 k ∧ (bLw k).2.1 = S1.2.2.1 k ∧ (bLw k).2.2.2.1 = S1.2.2.2.2 k ∧ ∀ j, j < 17 → (bLw k).2.2.1 j = S1.2.2.2.1 k j := by decide +kernel
theorem bL_15 : ∀ k, k < 214 → 14 < (bLw k).1 → k = 33 := by decide +kernel
theorem mapIdx_cg {α β : Type} (l : List α) (F F' : Nat → α → β) (h : ∀ j c, j < l.length → F j c = F' j c) : l.mapIdx F = l.mapIdx F' := by
  refine List.ext_getElem (by simp) (fun i h1 h2 => ?_)
  simp only [List.getElem_mapIdx]
  exact h _ _ (by simpa using h1)
theorem fco_17 (k : Nat) : (fco k).length ≤ 17 := by
  match k with
  | 0 | 1 | 2 | 3 | 4 | 5 | 6 | 7 | 8 | 9 | 10 => decide
  | n + 11 => exact Nat.le_refl 17
section LAWS
variable {G : GP} {Y : MD} {pc : Nat} {lo : List (Option Value)} {st : List Value} {σ : Sh} {d : Dt} {u : Nat × Nat} {Q : Option Value → Sh → Dt → Prop} {M : Nat → VC}
theorem vw_at {k : Nat} (eV : Vw σ d = ov M 0 214 bLw) (hk : k < 214) : Vw σ d k = bLw k := by
  have := z_at (m := k) eV hk
  rw [Nat.zero_add] at this
  exact this
theorem cel_S1 {k : Nat} {f : Nat → Nat → UInt32} (eV : Vw σ d = ov M 0 214 bLw) (hk : k < 214) : cel G S1 (d.1, f) k = cel G σ (d.1, f) k := by
  obtain ⟨h1, h2, h3, h4⟩ := bL_sh k hk
  have e := vw_at eV hk
  have e1 : σ.2.1 k = S1.2.1 k := (congrArg (fun c : VC => c.1) e).trans h1
  have e2 : σ.2.2.1 k = S1.2.2.1 k := (congrArg (fun c : VC => c.2.1) e).trans h2
  have e3 : σ.2.2.2.2 k = S1.2.2.2.2 k := (congrArg (fun c : VC => c.2.2.2.1) e).trans h3
  have e4 : ∀ j, j < 17 → σ.2.2.2.1 k j = S1.2.2.2.1 k j := fun j hj => (congrArg (fun c : VC => c.2.2.1 j) e).trans (h4 j hj)
  unfold cel
  rw [e1, e2]
  by_cases c1 : S1.2.1 k < 12
  · rw [if_pos c1, if_pos c1]
    refine congrArg Sum.inr (congrArg (Prod.mk _) (mapIdx_cg _ _ _ (fun j c hj => ?_)))
    have hj17 : j < 17 := Nat.lt_of_lt_of_le hj (fco_17 _)
    unfold fvl
    rw [e4 j hj17, e3]
  · rw [if_neg c1, if_neg c1]
    by_cases c2 : S1.2.1 k = 12
    · rw [if_pos c2, if_pos c2]
    · rw [if_neg c2, if_neg c2]
      by_cases c3 : S1.2.1 k = 13
      · rw [if_pos c3, if_pos c3]
      · rw [if_neg c3, if_neg c3]
        by_cases c4 : S1.2.1 k = 14
        · rw [if_pos c4, if_pos c4]
        · rw [if_neg c4, if_neg c4]
          have h33 : k = 33 := bL_15 k hk (by rw [h1]; omega)
          subst h33
          have e5 : σ.2.2.2.1 33 = S1.2.2.2.1 33 := ((congrArg (fun c : VC => c.2.2.1) e).trans bL_33).trans rf_33.symm
          rw [e5]
theorem HR_S1 {H : Heap} (e1 : σ.1 = 0 + 214) (eV : Vw σ d = ov M 0 214 bLw) (hH : HR G σ d H) : HR G S1 d H := by
  obtain ⟨hz, hlow, f, hf, hold⟩ := hH
  refine ⟨by rw [hz, e1]; rfl, hlow, f, hf, fun k hk => ?_⟩
  have hk' : k < 214 := hk
  rw [cel_S1 eV hk']
  exact hold k (by rw [e1]; omega)
theorem m_S1 (e1 : σ.1 = 0 + 214) (eV : Vw σ d = ov M 0 214 bLw) (kk : mM G Y pc lo st S1 d u Q) : mM G Y pc lo st σ d u Q :=
  fun p e s m args below meth cd C d0 hd0 H locs ls str hH hL hlo hst => kk p e s m args below meth cd C d0 hd0 H locs ls str (HR_S1 e1 eV hH) hL hlo hst
def iniS (j : Nat) : Int32 := if j = 40 then 2048 else if j = 41 then 1000 else if 78 ≤ j ∧ j < 88 then -1 else 0
/-- the state that the constructor leaves -/
abbrev A0 : AS := (iniS, 0, fun _ => 0, fun _ => 0, 0, fun _ => 0, 0)
theorem dv (eV : Vw σ d = ov M 0 214 bLw) {k : Nat} (hk : k < 214) : d.1 k = (bLw k).2.2.2.2.1 := congrArg (fun c : VC => c.2.2.2.2.1) (vw_at eV hk)
theorem df (eV : Vw σ d = ov M 0 214 bLw) {k : Nat} (hk : k < 214) : d.2 k = (bLw k).2.2.2.2.2 := congrArg (fun c : VC => c.2.2.2.2.2) (vw_at eV hk)
set_option maxRecDepth 100000 in
theorem bL_su : (∀ j, j < 40 → (bLw 4).2.2.2.2.1 j = 0) ∧ (∀ j, j < 32 → (bLw 6).2.2.2.2.1 j = 0) ∧ (∀ j, j < 3 → (bLw 8).2.2.2.2.1 j = iniS (40 + j)) ∧ (bLw 2).2.2.2.2.1 3 = 0 ∧ (bLw 9).2.2.2.2.1 1 = 0 ∧ (bLw 9).2.2.2.2.1 2 = 0 ∧ (∀ j, j < 10 → (bLw 13).2.2.2.2.1 j = -10000009) ∧ (∀ j, j < 6 → (bLw 15).2.2.2.2.1 j = 0) ∧ (bLw 16).2.2.2.2.1 1 = 0 ∧ (bLw 24).2.2.2.2.1 1 = 0 ∧ (bLw 32).2.2.2.2.1 1 = 0 ∧ (bLw 32).2.2.2.2.1 2 = 0 ∧ (bLw 205).2.2.2.2.1 1 = 0 ∧ (bLw 1).2.2.2.2.2 6 = 0 := by decide +kernel
theorem ini_0 {j : Nat} (h : j < 40 ∨ 42 ≤ j ∧ j < 78 ∨ 88 ≤ j) : iniS j = 0 := by unfold iniS; rw [if_neg (by omega), if_neg (by omega), if_neg (by omega)]
theorem ini_m {j : Nat} (h : 78 ≤ j ∧ j < 88) : iniS j = -1 := by unfold iniS; rw [if_neg (by omega), if_neg (by omega), if_pos h]
theorem OK_0 : OK A0 := by
  have s0 : ∀ j, (j < 40 ∨ 42 ≤ j ∧ j < 78 ∨ 88 ≤ j) → j < 408 → iniS j = 0 := fun j h _ => ini_0 h
  refine ⟨⟨⟨fun c hc => ?_, ⟨2048, by decide, rfl⟩, 0, by decide, s0 43 (by omega) (by decide), fun i hi => absurd hi (Nat.not_lt_zero i)⟩, ⟨0, by decide, s0 76 (by omega) (by decide)⟩, ⟨0, by decide, s0 77 (by omega) (by decide)⟩, fun p hp => Or.inl (ini_m (by omega)), fun p hp => Or.inl (s0 _ (by omega) (by omega)), ?_⟩, Nat.zero_le 5, fun i hi => absurd hi (Nat.not_lt_zero i), Nat.zero_le 140, fun j hj => absurd hj (Nat.not_lt_zero j)⟩
  · refine ⟨0, 0, 0, s0 _ (by omega) (by omega), by decide, s0 _ (by omega) (by omega), by decide, s0 _ (by omega) (by omega), by decide, ?_, fun h => absurd h (by decide), fun h => absurd h (by decide)⟩
    show -64 ≤ (iniS (5 * c + 2)).toInt ∧ (iniS (5 * c + 2)).toInt ≤ 4095
    rw [s0 (5 * c + 2) (by omega) (by omega)]; decide
  · show iniS 76 = iniS 88 + iniS 89 + iniS 90 + iniS 91
    rw [s0 76 (by omega) (by decide), s0 88 (by omega) (by decide), s0 89 (by omega) (by decide), s0 90 (by omega) (by decide), s0 91 (by omega) (by decide)]; decide
theorem CR_0 (eV : Vw σ d = ov M 0 214 bLw) : CR d A0 := by
  obtain ⟨b4, b6, b8, b2, b91, b92, b13, b15, b16, b24, b321, b322, b189, f1⟩ := bL_su
  have s0 : ∀ j, (j < 40 ∨ 42 ≤ j ∧ j < 78 ∨ 88 ≤ j) → j < 408 → iniS j = 0 := fun j h _ => ini_0 h
  have v : ∀ k j, k < 214 → d.1 k j = (bLw k).2.2.2.2.1 j := fun k j hk => congrFun (dv eV hk) j
  refine ⟨⟨⟨fun j hj => ?_, fun j hj => ?_, fun j hj => ?_, ?_⟩, ⟨0, 0, by decide, by decide, (v 9 1 (by decide)).trans b91, (v 9 2 (by decide)).trans b92, s0 77 (by omega) (by decide), fun k j hk => absurd hk (Nat.not_lt_zero k)⟩, fun p hp => ?_, fun i hi => ?_, ⟨?_, fun q => ?_⟩, ⟨?_, fun q => ?_⟩, ?_⟩, ⟨0, by decide, (v 32 1 (by decide)).trans b321, (v 32 2 (by decide)).trans b322, Nat.zero_le 5, fun k hk => absurd hk (Nat.not_lt_zero k)⟩, (v 205 1 (by decide)).trans b189, fun j hj => absurd hj (Nat.not_lt_zero j)⟩
  · exact ((v 4 j (by decide)).trans (b4 j hj)).trans (s0 j (by omega) (by omega)).symm
  · exact ((v 6 j (by decide)).trans (b6 j hj)).trans (s0 (44 + j) (by omega) (by omega)).symm
  · exact (v 8 j (by decide)).trans (b8 j hj)
  · exact ((v 2 3 (by decide)).trans b2).trans (s0 43 (by omega) (by decide)).symm
  · show d.1 13 p = if iniS (78 + p) = -1 then -10000009 else iniS (78 + p)
    rw [if_pos (ini_m (by omega))]
    exact (v 13 p (by decide)).trans (b13 p hp)
  · exact ((v 15 i (by decide)).trans (b15 i hi)).trans (s0 (88 + i) (by omega) (by omega)).symm
  · exact ((v 16 1 (by decide)).trans b16).trans (s0 254 (by omega) (by decide)).symm
  · exact absurd (q.symm.trans (s0 254 (by omega) (by decide))) (by decide)
  · exact ((v 24 1 (by decide)).trans b24).trans (s0 331 (by omega) (by decide)).symm
  · exact absurd (q.symm.trans (s0 331 (by omega) (by decide))) (by decide)
  · show d.2 1 6 = 0
    rw [df eV (k := 1) (by decide), f1]
theorem I_0 : tp_I A0 0 := by
  have s0 : ∀ j, (j < 40 ∨ 42 ≤ j ∧ j < 78 ∨ 88 ≤ j) → iniS j = 0 := fun j h => ini_0 h
  refine ⟨OK_0, rfl, ⟨by decide, by decide⟩, fun p hp => Or.inl (s0 _ (by omega)), 0, 0, 0, fun _ => 0, s0 76 (by omega), Nat.le_refl _, s0 77 (by omega), by decide, s0 92 (by omega), Nat.le_refl _, Or.inr rfl, Nat.le_refl _, fun i hi => absurd hi (Nat.not_lt_zero i), fun i hi => absurd hi (Nat.not_lt_zero _)⟩
end LAWS
