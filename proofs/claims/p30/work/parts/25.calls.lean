/-! CALLS AND CONTRACTS -/
/-- a call's fixed facts: the callee's code first among its words, its descriptor, its room within the caller's -/
def CZ (Y Z : MD) (n : Nat) : Prop := (∃ ws', y_ws Z = Cond.code Z.1 (y_cc Z) (y_nl Z) (y_rt Z) :: ws') ∧ (Z.1.cls ≠ "java/lang/invoke/MethodHandle" ∧ Z.1.cls ≠ "java/lang/invoke/VarHandle" ∧ (parseMethodDescriptor Z.1.desc).map (fun d => d.parameters.length) = some n) ∧ ((y_rm Z).frames + 1 ≤ (y_rm Y).frames ∧ 8 + (y_nl Z + 11) + (y_rm Z).locals ≤ (y_rm Y).locals)
/-- an invokevirtual, an invokestatic, an invokespecial; the last two of nest mates -/
def CV (Y : MD) (i : Nat) (Z : MD) (n : Nat) : Prop := GoodIn (y_ws Y) (wsV Y.1.cls i Z.1.cls Z.1 (y_ws Z)) ∧ CZ Y Z n
def CS (Y : MD) (i : Nat) (Z : MD) (n : Nat) : Prop := GoodIn (y_ws Y) (va_wsS Y.1.cls i Z.1 (y_ws Z)) ∧ CZ Y Z n
def CI (Y : MD) (i : Nat) (Z : MD) (n : Nat) : Prop := GoodIn (y_ws Y) (y_ws Z) ∧ Cond.initialized Z.1.cls ∈ y_ws Y ∧ Cond.methodLink Y.1.cls i Z.1 ∈ y_ws Y ∧ Cond.instanceMethod Z.1 ∈ y_ws Y ∧ Z.1.name = "<init>" ∧ y_rt Z = none ∧ CZ Y Z n
def CIN (Y : MD) (i : Nat) (Z : MD) (n : Nat) : Prop := GoodIn (y_ws Y) (y_ws Z) ∧ Cond.initialized Z.1.cls ∈ y_ws Y ∧ (Y.1.cls, i, Z.1, "ScanRing") ∈ nws ∧ Cond.instanceMethod Z.1 ∈ y_ws Y ∧ Z.1.name = "<init>" ∧ y_rt Z = none ∧ CZ Y Z n
def CSN (Y : MD) (i : Nat) (Z : MD) (n : Nat) : Prop := GoodIn (y_ws Y) (y_ws Z) ∧ Cond.initialized Z.1.cls ∈ y_ws Y ∧ (Y.1.cls, i, Z.1, "ScanRing") ∈ nws ∧ Cond.static Z.1 ∈ y_ws Y ∧ CZ Y Z n
section CALLS
variable {G : GP} {Y Z : MD} {pc pc' tgt : Nat} {lo lo' : List (Option Value)} {st : List Value} {σ σ' : Sh} {d d' : Dt} {u u' : Nat × Nat} {Q : Option Value → Sh → Dt → Prop} {H H1 : Heap} {k : Nat} {f : Nat → Nat → UInt32}
theorem fb_Pc {Ar : List Value} : FrameBlind (va_Pc Ar (fun U => HR G σ d U.heap ∧ mK G U)) := fun a U g mk h => ⟨h.1, h.2.1, mK.same (s := U) (by rfl) h.2.2⟩
/-- behind a call that came back -/
theorem m_back {p : Program} {e : Env} {s : State} {m : MethodId} {args : Array Value} {below : List Frame} {meth : Method} {c : Code} {d0 : Drawn} {locs : List Loc} {ls : Array Slot} {str restr : List Value} {rest : List Value} {mc ms : Nat} {a : Array Value} (C : mCx G Y p s m args meth c) (hd0 : s.drawn.sameBut d0 lw_cs) (hL : ∀ q ∈ locs, g_bs G ≤ q.base) (hlo : mL G lo ls (y_nl Y)) (hst : vRs G rest restr)
    (hr : va_RunD lw_cs p G.1 e (y_rm Y) (s.setDrawn d0) m args below meth c H locs u.1 u.2 mc ms (F0 m pc ls str) restr (mQ G (fun v σ' d' => mM G Y (pc + 3) lo (v.toList ++ rest) σ' d' (u.1 + mc, u.2 + ms) Q) a) (fun q => g_bs G ≤ q)) :
    W p G.1 e (y_rm Y) (s.setDrawn d0) m args below meth c H locs u.1 u.2 (MQD lw_cs below (mQ G Q) args s (y_rm Y).cells (y_rm Y).slots (fun q => g_bs G ≤ q)) (F0 m pc ls str) := by
  intro T hT X
  obtain ⟨v, st₀, t, T', L, d', hd', h0, X', hL', e1, e2, hq, stp⟩ := hr T hT X
  obtain ⟨va, v', σ', d'', hv, hvr, hq, hH'⟩ := hq
  cases hv
  have hvs : vRs G (va.toList ++ rest) (v.toList ++ restr) := by
    cases va with
    | none => cases hvr; exact hst
    | some w =>
      obtain ⟨w', rfl, hw⟩ := hvr
      exact ⟨_, _, rfl, hw, hst⟩
  obtain ⟨t2, a1, b1⟩ := hq p e s m args below meth c C d' (hd0.trans hd') T'.heap (locs ++ L) ls _ (by rw [e1]; exact hH') (fun q h => by
      rcases List.mem_append.mp h with h | h
      · exact hL q h
      · exact hL' q h) hlo hvs T' rfl X'
  exact ⟨t2, stp t2 a1, b1⟩
theorem m_callV {i n ci b : Nat} {A rest : List Value} (cv : CV Y i Z n) (hd : decode (y_cc Y) pc = .ok (.invokevirtual i, 3)) (hst0 : st = A.reverse ++ .ref b :: rest) (hn : A.length = n) (hr8 : (rest.map vct).sum ≤ 8) (hu : u.1 + (y_rm Z).cells ≤ (y_rm Y).cells ∧ u.2 + (y_rm Z).slots ≤ (y_rm Y).slots) (hb : b < σ.1) (hc : σ.2.1 b = ci) (hcl : (vwCl[ci]?).map (fun x => x.1) = some Z.1.cls) (hp : pc + 3 = pc') (hu' : (u.1 + (y_rm Z).cells, u.2 + (y_rm Z).slots) = u')
    (kk : mC G Z (.ref b :: A) σ d (fun v σ' d' => mM G Y pc' lo (v.toList ++ rest) σ' d' u' Q)) : mM G Y pc lo st σ d u Q := by
  subst hp; subst hst0; subst hu'
  intro p e s m args below meth cd C d0 hd0 H locs ls str hH hL hlo hst
  obtain ⟨r1, r2, rfl, h1, h2⟩ := vRs_split hst
  obtain ⟨_, restr, rfl, hx, h2⟩ := h2
  obtain rfl := vR_ref hx
  have h3 : vRs G A r1.reverse := by have := vRs_rev h1; rwa [List.reverse_reverse] at this
  obtain ⟨g1, ⟨ws', g2⟩, g3, g4⟩ := cv
  have hts := dr_words (C.2.2.2.2.2.1) d0
  have hP := id hH
  obtain ⟨hz, hlow, f, hf, hold⟩ := hP
  have hb1 := hold b hb
  have hlt : ci < 12 := by
    rcases Nat.lt_or_ge ci 12 with h | h
    · exact h
    · rw [show vwCl[ci]? = none from List.getElem?_eq_none (by show 11 ≤ ci; omega)] at hcl; cases hcl
  rw [cel_obj hc hlt] at hb1
  obtain ⟨q0, hq0, hq1⟩ : ∃ q0, vwCl[ci]? = some q0 ∧ q0.1 = Z.1.cls := by
    cases hq : vwCl[ci]? with
    | none => rw [hq] at hcl; cases hcl
    | some q0 => rw [hq] at hcl; exact ⟨q0, rfl, Option.some.inj hcl⟩
  have hK0 := C.2.2.2.2.2.2.2.1
  have hrv := va_recv (s := s.setDrawn d0) (tys := g_ty G) (q0 := 0) (D := g_D G) (cl := vwCl) hK0.1 (P1 hb1) hq0 rfl
  rw [hq1] at hrv
  refine m_back C hd0 hL hlo h2 (va_runV_D (As := r1.reverse) (rest := restr) (C := Z.1.cls) (index := i) (n := n) ⟨C.1, C.2.1, C.2.2.2.1, C.2.2.2.2.1, hts⟩ (kk (.ref (g_bs G + b) :: r1.reverse) ⟨_, _, rfl, rfl, h3⟩) (cwV n hts g1 g2 rfl rfl ⟨rfl, g3⟩ g4) ⟨fb_Pc, hrv, fun U hU hW => ⟨rfl, by rw [hU]; exact hH, mK.moved hW hK0⟩⟩ rfl ((vRs_len h3).trans hn) (mL_siz hlo) (by rw [List.reverse_reverse]) (by rw [vRs_cat h2]; show 2 * 0 + _ ≤ 8; omega) hd hu)
theorem m_callS {i n : Nat} {A rest : List Value} (cv : CS Y i Z n) (hd : decode (y_cc Y) pc = .ok (.invokestatic i, 3)) (hst0 : st = A.reverse ++ rest) (hn : A.length = n) (hr8 : (rest.map vct).sum ≤ 8) (hu : u.1 + (y_rm Z).cells ≤ (y_rm Y).cells ∧ u.2 + (y_rm Z).slots ≤ (y_rm Y).slots) (hp : pc + 3 = pc') (hu' : (u.1 + (y_rm Z).cells, u.2 + (y_rm Z).slots) = u')
    (kk : mC G Z A σ d (fun v σ' d' => mM G Y pc' lo (v.toList ++ rest) σ' d' u' Q)) : mM G Y pc lo st σ d u Q := by
  subst hp; subst hst0; subst hu'
  intro p e s m args below meth cd C d0 hd0 H locs ls str hH hL hlo hst
  obtain ⟨r1, restr, rfl, h1, h2⟩ := vRs_split hst
  have h3 : vRs G A r1.reverse := by have := vRs_rev h1; rwa [List.reverse_reverse] at this
  obtain ⟨g1, ⟨ws', g2⟩, g3, g4⟩ := cv
  have hts := dr_words (C.2.2.2.2.2.1) d0
  have hK0 := C.2.2.2.2.2.2.2.1
  refine m_back C hd0 hL hlo h2 (va_runS_D (As := r1.reverse) (rest := restr) (index := i) (n := n) ⟨C.1, C.2.1, C.2.2.2.1, C.2.2.2.2.1, hts⟩ (kk r1.reverse h3) (va_cwS n hts g1 g2 rfl rfl g3 g4) ⟨fb_Pc, fun U hU hW => ⟨rfl, by rw [hU]; exact hH, mK.moved hW hK0⟩⟩ rfl ((vRs_len h3).trans hn) (mL_siz hlo) (by rw [List.reverse_reverse]) (by rw [vRs_cat h2]; show 2 * 0 + _ ≤ 8; omega) hd hu)
theorem m_callSN {i n : Nat} {A rest : List Value} (cv : CSN Y i Z n) (hd : decode (y_cc Y) pc = .ok (.invokestatic i, 3)) (hst0 : st = A.reverse ++ rest) (hn : A.length = n) (hr8 : (rest.map vct).sum ≤ 8) (hu : u.1 + (y_rm Z).cells ≤ (y_rm Y).cells ∧ u.2 + (y_rm Z).slots ≤ (y_rm Y).slots) (hp : pc + 3 = pc') (hu' : (u.1 + (y_rm Z).cells, u.2 + (y_rm Z).slots) = u')
    (kk : mC G Z A σ d (fun v σ' d' => mM G Y pc' lo (v.toList ++ rest) σ' d' u' Q)) : mM G Y pc lo st σ d u Q := by
  subst hp; subst hst0; subst hu'
  intro p e s m args below meth cd C d0 hd0 H locs ls str hH hL hlo hst
  obtain ⟨r1, restr, rfl, h1, h2⟩ := vRs_split hst
  have h3 : vRs G A r1.reverse := by have := vRs_rev h1; rwa [List.reverse_reverse] at this
  obtain ⟨g1, g5, g6, g7, ⟨ws', g2⟩, g3, g4⟩ := cv
  have hts := dr_words (C.2.2.2.2.2.1) d0
  have hK0 := C.2.2.2.2.2.2.2.1
  refine m_back C hd0 hL hlo h2 (va_runSN_D (As := r1.reverse) (rest := restr) (index := i) (n := n) (host := "ScanRing") ⟨C.1, C.2.1, C.2.2.2.1, C.2.2.2.2.1, hts⟩ (kk r1.reverse h3) ⟨va_cnB n hts g1 g2 rfl rfl (va_Nw.same rfl rfl (hK0.2.2.1 _ g6)) (hts _ g5) g3 g4, hts _ g7, trivial⟩ ⟨fb_Pc, fun U hU hW => ⟨rfl, by rw [hU]; exact hH, mK.moved hW hK0⟩⟩ rfl ((vRs_len h3).trans hn) (mL_siz hlo) (by rw [List.reverse_reverse]) (by rw [vRs_cat h2]; show 2 * 0 + _ ≤ 8; omega) hd hu)
theorem m_callI {i n b : Nat} {A rest : List Value} (cv : CI Y i Z n) (hd : decode (y_cc Y) pc = .ok (.invokespecial i, 3)) (hst0 : st = A.reverse ++ .ref b :: rest) (hn : A.length = n) (hr8 : (rest.map vct).sum ≤ 8) (hu : u.1 + (y_rm Z).cells ≤ (y_rm Y).cells ∧ u.2 + (y_rm Z).slots ≤ (y_rm Y).slots) (hp : pc + 3 = pc') (hu' : (u.1 + (y_rm Z).cells, u.2 + (y_rm Z).slots) = u')
    (kk : mC G Z (.ref b :: A) σ d (fun v σ' d' => mM G Y pc' lo (v.toList ++ rest) σ' d' u' Q)) : mM G Y pc lo st σ d u Q := by
  subst hp; subst hst0; subst hu'
  intro p e s m args below meth cd C d0 hd0 H locs ls str hH hL hlo hst
  obtain ⟨r1, r2, rfl, h1, h2⟩ := vRs_split hst
  obtain ⟨_, restr, rfl, hx, h2⟩ := h2
  obtain rfl := vR_ref hx
  have h3 : vRs G A r1.reverse := by have := vRs_rev h1; rwa [List.reverse_reverse] at this
  obtain ⟨g1, g5, g6, g7, g8, g9, ⟨ws', g2⟩, g3, g4⟩ := cv
  rw [g9] at g2
  have hts := dr_words (C.2.2.2.2.2.1) d0
  have hK0 := C.2.2.2.2.2.2.2.1
  refine m_back C hd0 hL hlo h2 (va_runI_D (As := r1.reverse) (rest := restr) (index := i) (n := n) ⟨C.1, C.2.1, C.2.2.2.1, C.2.2.2.2.1, hts⟩ (kk (.ref (g_bs G + b) :: r1.reverse) ⟨_, _, rfl, rfl, h3⟩) (cwI n hts g1 g2 rfl rfl (hts _ g5) (hts _ g6) (hts _ g7) g8 g3 g4) ⟨fb_Pc, fun U hU hW => ⟨rfl, by rw [hU]; exact hH, mK.moved hW hK0⟩⟩ rfl ((vRs_len h3).trans hn) (mL_siz hlo) (by rw [List.reverse_reverse]) (by rw [vRs_cat h2]; show 2 * 0 + _ ≤ 8; omega) hd hu)
theorem m_callIN {i n b : Nat} {A rest : List Value} (cv : CIN Y i Z n) (hd : decode (y_cc Y) pc = .ok (.invokespecial i, 3)) (hst0 : st = A.reverse ++ .ref b :: rest) (hn : A.length = n) (hr8 : (rest.map vct).sum ≤ 8) (hu : u.1 + (y_rm Z).cells ≤ (y_rm Y).cells ∧ u.2 + (y_rm Z).slots ≤ (y_rm Y).slots) (hp : pc + 3 = pc') (hu' : (u.1 + (y_rm Z).cells, u.2 + (y_rm Z).slots) = u')
    (kk : mC G Z (.ref b :: A) σ d (fun v σ' d' => mM G Y pc' lo (v.toList ++ rest) σ' d' u' Q)) : mM G Y pc lo st σ d u Q := by
  subst hp; subst hst0; subst hu'
  intro p e s m args below meth cd C d0 hd0 H locs ls str hH hL hlo hst
  obtain ⟨r1, r2, rfl, h1, h2⟩ := vRs_split hst
  obtain ⟨_, restr, rfl, hx, h2⟩ := h2
  obtain rfl := vR_ref hx
  have h3 : vRs G A r1.reverse := by have := vRs_rev h1; rwa [List.reverse_reverse] at this
  obtain ⟨g1, g5, g6, g7, g8, g9, ⟨ws', g2⟩, g3, g4⟩ := cv
  rw [g9] at g2
  have hts := dr_words (C.2.2.2.2.2.1) d0
  have hK0 := C.2.2.2.2.2.2.2.1
  refine m_back C hd0 hL hlo h2 (va_runIN_D (As := r1.reverse) (rest := restr) (index := i) (n := n) (host := "ScanRing") ⟨C.1, C.2.1, C.2.2.2.1, C.2.2.2.2.1, hts⟩ (kk (.ref (g_bs G + b) :: r1.reverse) ⟨_, _, rfl, rfl, h3⟩) ⟨va_cnB n hts g1 g2 rfl rfl (va_Nw.same rfl rfl (hK0.2.2.1 _ g6)) (hts _ g5) g3 g4, g8, hts _ g7⟩ ⟨fb_Pc, fun U hU hW => ⟨rfl, by rw [hU]; exact hH, mK.moved hW hK0⟩⟩ rfl ((vRs_len h3).trans hn) (mL_siz hlo) (by rw [List.reverse_reverse]) (by rw [vRs_cat h2]; show 2 * 0 + _ ≤ 8; omega) hd hu)
/-- the words of Math's three -/
def WM (Y : MD) (i : Nat) (y : MethodName) (cc : ByteArray) (n : Nat) : Prop := Cond.methodLink Y.1.cls i y ∈ y_ws Y ∧ Cond.static y ∈ y_ws Y ∧ Cond.initialized "java/lang/Math" ∈ y_ws Y ∧ Cond.code y cc n (some .int) ∈ y_ws Y ∧ 1 ≤ (y_rm Y).frames ∧ 21 ≤ (y_rm Y).locals
theorem m_mmax {i : Nat} {x y : Int32} (wm : WM Y i Lib.Math.max.name Lib.Math.max.code 2) (hd : decode (y_cc Y) pc = .ok (.invokestatic i, 3)) (hr8 : (st.map vct).sum ≤ 8) (hu : u.1 ≤ (y_rm Y).cells ∧ u.2 ≤ (y_rm Y).slots) (hp : pc + 3 = pc') (kk : mM G Y pc' lo (.int (if x < y then y else x) :: st) σ d u Q) : mM G Y pc lo (.int y :: .int x :: st) σ d u Q := by
  subst hp
  intro p e s m args below meth cd C d0 hd0 H locs ls str hH hL hlo hst
  obtain ⟨_, _, rfl, hy, _, _, rfl, hx, hst⟩ := hst
  obtain rfl := vR_int hx
  obtain rfl := vR_int hy
  obtain ⟨w1, w2, w3, w4, w5, w6⟩ := wm
  have hts := dr_words (C.2.2.2.2.2.1) d0
  exact va_mmax (s := s.setDrawn d0) C.1 C.2.1 (C.2.2.2.1.trans (mL_siz hlo).symm) C.2.2.2.2.1 (hts _ w1) (hts _ w2) (hts _ w3) (hts _ w4) w5 (by rw [vRs_cat hst]; omega) hu.1 hu.2 hd (kk p e s m args below meth cd C d0 hd0 H locs ls _ hH hL hlo ⟨_, _, rfl, rfl, hst⟩)
theorem m_mmin {i : Nat} {x y : Int32} (wm : WM Y i Lib.Math.min.name Lib.Math.min.code 2) (hd : decode (y_cc Y) pc = .ok (.invokestatic i, 3)) (hr8 : (st.map vct).sum ≤ 8) (hu : u.1 ≤ (y_rm Y).cells ∧ u.2 ≤ (y_rm Y).slots) (hp : pc + 3 = pc') (kk : mM G Y pc' lo (.int (if y < x then y else x) :: st) σ d u Q) : mM G Y pc lo (.int y :: .int x :: st) σ d u Q := by
  subst hp
  intro p e s m args below meth cd C d0 hd0 H locs ls str hH hL hlo hst
  obtain ⟨_, _, rfl, hy, _, _, rfl, hx, hst⟩ := hst
  obtain rfl := vR_int hx
  obtain rfl := vR_int hy
  obtain ⟨w1, w2, w3, w4, w5, w6⟩ := wm
  have hts := dr_words (C.2.2.2.2.2.1) d0
  exact va_mmin (s := s.setDrawn d0) C.1 C.2.1 (C.2.2.2.1.trans (mL_siz hlo).symm) C.2.2.2.2.1 (hts _ w1) (hts _ w2) (hts _ w3) (hts _ w4) w5 (by rw [vRs_cat hst]; omega) hu.1 hu.2 hd (kk p e s m args below meth cd C d0 hd0 H locs ls _ hH hL hlo ⟨_, _, rfl, rfl, hst⟩)
theorem m_mabs {i : Nat} {x : Int32} (wm : WM Y i Lib.Math.abs.name Lib.Math.abs.code 1) (hd : decode (y_cc Y) pc = .ok (.invokestatic i, 3)) (hr8 : (st.map vct).sum ≤ 8) (hu : u.1 ≤ (y_rm Y).cells ∧ u.2 ≤ (y_rm Y).slots) (hp : pc + 3 = pc') (kk : mM G Y pc' lo (.int (if 0 ≤ x then x else 0 - x) :: st) σ d u Q) : mM G Y pc lo (.int x :: st) σ d u Q := by
  subst hp
  intro p e s m args below meth cd C d0 hd0 H locs ls str hH hL hlo hst
  obtain ⟨_, _, rfl, hx, hst⟩ := hst
  obtain rfl := vR_int hx
  obtain ⟨w1, w2, w3, w4, w5, w6⟩ := wm
  have hts := dr_words (C.2.2.2.2.2.1) d0
  exact va_mabs (s := s.setDrawn d0) C.1 C.2.1 (C.2.2.2.1.trans (mL_siz hlo).symm) C.2.2.2.2.1 (hts _ w1) (hts _ w2) (hts _ w3) (hts _ w4) w5 (by rw [vRs_cat hst]; omega) hu.1 hu.2 hd (kk p e s m args below meth cd C d0 hd0 H locs ls _ hH hL hlo ⟨_, _, rfl, rfl, hst⟩)
/-- arraycopy from row k0 to row k, both of ints -/
def d_cpy (d : Dt) (k0 k sp dp n : Nat) : Dt := (fun a b => if a = k then va_cpy (d.1 k0) (d.1 k) sp dp n b else d.1 a b, d.2)
theorem m_copy {i k0 : Nat} {sp dp n : Int32} (hw : Cond.methodLink Y.1.cls i arraycopyName ∈ y_ws Y ∧ Cond.native arraycopyName ∈ y_ws Y ∧ Cond.static arraycopyName ∈ y_ws Y ∧ Cond.initialized "java/lang/System" ∈ y_ws Y) (hR : 1 ≤ (y_rm Y).frames ∧ (st.map vct).sum + (nativeFrameWords "java/lang/System" "arraycopy" 5 + 11) ≤ (y_rm Y).locals) (hd : decode (y_cc Y) pc = .ok (.invokestatic i, 3)) (hk : k < σ.1) (hc : σ.2.1 k = 14) (hk0 : k0 < σ.1) (hc0 : σ.2.1 k0 = 14) (h1 : ¬ sp < 0) (h2 : ¬ dp < 0) (h3 : ¬ n < 0) (h4 : sp.toNatClampNeg + n.toNatClampNeg ≤ σ.2.2.1 k0) (h5 : dp.toNatClampNeg + n.toNatClampNeg ≤ σ.2.2.1 k) (hp : pc + 3 = pc') (kk : mM G Y pc' lo st σ (d_cpy d k0 k sp.toNatClampNeg dp.toNatClampNeg n.toNatClampNeg) u Q) : mM G Y pc lo (.int n :: .int dp :: .ref k :: .int sp :: .ref k0 :: st) σ d u Q := by
  subst hp
  intro p e s m args below meth cd C d0 hd0 H locs ls str hH hL hlo hst
  obtain ⟨_, _, rfl, ha, _, _, rfl, hb, _, _, rfl, hc', _, _, rfl, hd', _, _, rfl, he', hst⟩ := hst
  obtain rfl := vR_int ha
  obtain rfl := vR_int hb
  obtain rfl := vR_ref hc'
  obtain rfl := vR_int hd'
  obtain rfl := vR_ref he'
  obtain ⟨hz, hlow, f, hf, hold⟩ := id hH
  have q1 := hold k hk
  rw [cel_i hc] at q1
  have q0 := hold k0 hk0
  rw [cel_i hc0] at q0
  have hts := dr_words (C.2.2.2.2.2.1) d0
  refine mv_copyi (s := s.setDrawn d0) (D := g_D G) (cl := vwCl) (tys := g_ty G) C.1 C.2.1 (C.2.2.2.1.trans (mL_siz hlo).symm) C.2.2.2.2.1 (hts _ hw.1) (hts _ hw.2.1) (hts _ hw.2.2.1) (hts _ hw.2.2.2) C.2.2.2.2.2.2.2.1.1 2 q0 q1 rfl h1 h2 h3 h4 h5 hR.1 (by rw [vRs_cat hst]; exact hR.2) hd (fun H1 L e1 e2 e3 e4 => ?_)
  refine kk p e s m args below meth cd C d0 hd0 H1 _ ls _ ?_ (fun q h => ?_) hlo hst
  · refine HR_upd (σ' := σ) (d' := d_cpy d k0 k sp.toNatClampNeg dp.toNatClampNeg n.toNatClampNeg) hz hlow hold e2 e3 f hf rfl (fun k' hk' => ?_) ?_
    · unfold cel fvl d_cpy
      simp only [if_neg hk']
    · rw [cel_i hc]
      have e : (d_cpy d k0 k sp.toNatClampNeg dp.toNatClampNeg n.toNatClampNeg).1 k = va_cpy (d.1 k0) (d.1 k) sp.toNatClampNeg dp.toNatClampNeg n.toNatClampNeg := by
        funext b
        show (if k = k then _ else _) = _
        rw [if_pos rfl]
      show va_at _ _ (_, .inl (_, _, .inl ((d_cpy d k0 k sp.toNatClampNeg dp.toNatClampNeg n.toNatClampNeg).1 k))) _
      rw [e]
      exact e1
  · rcases List.mem_append.mp h with h | h
    · exact hL q h
    · rw [e4 q h]; exact Nat.le_add_right _ _
/-- the locals at a method's entry -/
def lo0 (A : List Value) (n : Nat) : List (Option Value) := A.map some ++ List.replicate (n - A.length) none
theorem lg_sl_vRs : ∀ {A Ar : List Value}, (A.all fun a => vct a == 1) = true → vRs G A Ar → lg_sl Ar = Ar.map Slot.val
  | [], _, _, h => by cases h; rfl
  | a :: l, _, h0, h => by
    obtain ⟨x, t, rfl, h1, h2⟩ := h
    rw [List.all_cons, Bool.and_eq_true] at h0
    have := lg_sl_vRs h0.2 h2
    have hc := (vR_cat h1).trans (beq_iff_eq.mp h0.1)
    simp only [lg_sl, List.flatMap_cons, List.map_cons] at this ⊢
    rw [this]
    simp [hc]
theorem lv_args_vRs : ∀ {A Ar : List Value} (j : Nat), (A.all fun a => vct a == 1) = true → vRs G A Ar → ∀ i v, A[i]? = some v → ∃ r, (j + i, r) ∈ lv_args j Ar ∧ vR G v r
  | [], _, j, _, h, i, v, hi => by simp at hi
  | a :: l, _, j, h0, h, i, v, hi => by
    obtain ⟨x, t, rfl, h1, h2⟩ := h
    rw [List.all_cons, Bool.and_eq_true] at h0
    have hc := (vR_cat h1).trans (beq_iff_eq.mp h0.1)
    cases i with
    | zero =>
      cases hi
      exact ⟨x, by simp [lv_args], h1⟩
    | succ i =>
      rw [List.getElem?_cons_succ] at hi
      obtain ⟨r, hr, hv⟩ := lv_args_vRs (j + 1) h0.2 h2 i v hi
      refine ⟨r, ?_, hv⟩
      simp only [lv_args, hc]
      refine List.mem_cons_of_mem _ ?_
      have : j + (i + 1) = j + 1 + i := by omega
      rw [this]
      simpa using hr
/-- A CONTRACT OUT OF A WALK -/
theorem mC_of {A : List Value} (hpl : plainName Y.1.cls = true) (hw : ∃ ws', y_ws Y = Cond.code Y.1 (y_cc Y) (y_nl Y) (y_rt Y) :: ws') (hA : A.length ≤ y_nl Y) (kk : mM G Y 0 (lo0 A (y_nl Y)) [] σ d (0, 0) Q) (h1A : (A.all fun a => vct a == 1) = true := by rfl) : mC G Y A σ d Q := by
  obtain ⟨ws', hw⟩ := hw
  intro Ar hAr
  refine MetD.ofW (cc := y_cc Y) (maxL := y_nl Y) (ret := y_rt Y) hpl hw ?_
  intro p e s m args below meth c s₁ B hml hv hd0
  obtain ⟨rfl, hH, hK⟩ := hv
  have hts := atoms_spec (ws := y_ws Y) B.pre
  have hown : s.vm.findClass Y.1.cls = some m.cls := findClass_of_methodNamed B.named
  have hlen : (lg_sl Ar).length ≤ y_nl Y := by rw [lg_sl_vRs h1A hAr, List.length_map, vRs_len hAr]; exact hA
  have hl := lv_entry Ar (n := y_nl Y) hlen
  rw [lg_entry_eq]
  refine kk p e s m Ar.toArray below meth c ⟨B.exec, B.bytes, B.returns, hml, hown, hts, B.notSynchronized, hK, (name_of_methodNamed B.named B.method).1⟩ s.drawn hd0 s.heap [] _ [] hH (fun q h => by cases h) ⟨_, hl, ?_, fun i v hi _ => ?_⟩ rfl
  · unfold lo0
    rw [List.length_append, List.length_map, List.length_replicate]
    omega
  · unfold lo0 at hi
    rcases Nat.lt_or_ge i A.length with h | h
    · rw [List.getElem?_append_left (by rw [List.length_map]; exact h), List.getElem?_map] at hi
      cases hv : A[i]? with
      | none => rw [hv] at hi; cases hi
      | some w =>
        rw [hv] at hi; cases hi
        obtain ⟨r, h1, h2⟩ := lv_args_vRs 0 h1A hAr i _ hv
        rw [Nat.zero_add] at h1
        exact ⟨r, h1, h2⟩
    · rw [List.getElem?_append_right (by rw [List.length_map]; exact h)] at hi
      have := List.mem_of_getElem? hi
      rw [List.mem_replicate] at this
      cases this.2
/-- a contract's end may be weaker -/
theorem mC_mono {A : List Value} {Q' : Option Value → Sh → Dt → Prop} (h : mC G Y A σ d Q') (hQ : ∀ v σ' d', Q' v σ' d' → Q v σ' d') : mC G Y A σ d Q := by
  intro Ar hAr p e ha hc hk s m args below hf happ hP hK
  obtain ⟨n, o, h1, h2, h3, dd, h4, h5, h6⟩ := h Ar hAr p e ha hc hk s m args below hf happ hP hK
  obtain ⟨v, v', σ', d', q1, q2, q3, q4⟩ := h5
  exact ⟨n, o, h1, h2, h3, dd, h4, ⟨v, v', σ', d', q1, q2, hQ _ _ _ q3, q4⟩, h6⟩
end CALLS
