/-! THE RING'S STATE and what each call does to it: the state of whole numbers, how many states are kept, the kept ones, their charges, the charge, the text, its length -/
abbrev AS : Type := SS × Nat × SS × (Nat → UInt32) × UInt32 × SS × Nat
abbrev a_s (A : AS) : SS := A.1
abbrev a_m (A : AS) : Nat := A.2.1
abbrev a_v (A : AS) : SS := A.2.2.1
abbrev a_c (A : AS) : Nat → UInt32 := A.2.2.2.1
abbrev a_h (A : AS) : UInt32 := A.2.2.2.2.1
abbrev a_t (A : AS) : SS := A.2.2.2.2.2.1
abbrev a_n (A : AS) : Nat := A.2.2.2.2.2.2
/-- recorded, with another state behind it -/
def rec (A : AS) (s : SS) (h : UInt32) : AS := (s, hm (a_m A) + 1, hsv2 (a_m A) (a_v A) (a_s A), hsc2 (a_m A) (a_c A) (a_h A), h, a_t A, a_n A)
abbrev nn (x : Int32) : Nat := x.toNatClampNeg
abbrev eI : Int32 := -10000001
abbrev eS : Int32 := -10000002
abbrev eC : Int32 := -10000003
abbrev eN : Int32 := -10000009
def opSetSource (A : AS) (c k l x p : Int32) : Int32 × AS := if bin c 0 7 = 0 ∨ isrc k l x p = 0 then (eI, A) else (a_s A (5 * nn c), rec A (pso (a_s A) (nn c) k l x p) (a_h A))
def opSetRes (A : AS) (c r : Int32) : Int32 × AS := if bin c 0 7 = 0 ∨ bin r 0 31 = 0 then (eI, A) else (a_s A (5 * nn c + 4), rec A (sU (a_s A) (5 * nn c + 4) r) (a_h A))
def oset (w v : Int32) : Int32 := if w = 0 then bin v 0 4095 else if w = 1 then bin v 900 1100 else if w = 2 then bin v (-100) 100 else 0
def opSet (A : AS) (w v : Int32) : Int32 × AS := if oset w v = 0 then (eI, A) else (a_s A (40 + nn w), rec A (sU (a_s A) (40 + nn w) v) (a_h A))
def opAdd (A : AS) (p q b : Int32) : Int32 × AS := if bin p 0 9 = 0 ∨ bin q 0 7 = 0 ∨ bin b 0 (a_s A 43) = 0 then (eI, A) else if a_s A 43 = 16 then (eC, A) else (nI (nn (a_s A 43) + 1), rec A (ins (a_s A) (nn (a_s A 43)) (nn b) p q) (a_h A))
def opRem (A : AS) (e : Int32) : Int32 × AS := if bin e 0 (a_s A 43 - 1) = 0 then (eI, A) else (nI (nn (a_s A 43) - 1), rec A (rem (a_s A) (nn (a_s A 43)) (nn e)) (a_h A))
def opSettle (A : AS) (e q : Int32) : Int32 × AS := if bin e 0 (a_s A 43 - 1) = 0 ∨ bin q 0 7 = 0 then (eI, A) else (a_s A (45 + 2 * nn e), rec A (sU (a_s A) (45 + 2 * nn e) q) (a_h A))
def opPass (A : AS) (n : Int32) : Int32 × AS := if bin n 1 1000 = 0 then (eI, A) else if 9999 < a_s A 76 + n then (eC, A) else (a_s A 76 + n, rec A (sU (sU (a_s A) 76 (a_s A 76 + n)) 91 (a_s A 91 + n)) (a_h A))
/-- a snapshot taken, restored -/
def tks (s : SS) (p : Nat) : SS := cpw s (sU s (254 + 77 * p) 1) (255 + 77 * p) 76
def rst (s : SS) (p : Nat) : SS := cpi (fun j => s (255 + 77 * p + j)) s 76
def opTake (A : AS) (p : Int32) : Int32 × AS := if bin p 0 1 = 0 then (eI, A) else (a_s A 43, rec A (tks (a_s A) (nn p)) (a_h A))
def opRestore (A : AS) (p : Int32) : Int32 × AS := if bin p 0 1 = 0 then (eI, A) else if a_s A (254 + 77 * nn p) = 0 then (eS, A) else (a_s A (298 + 77 * nn p), rec A (rst (a_s A) (nn p)) (a_h A))
def opUndo (A : AS) : Int32 × AS := if a_m A = 0 then (eS, A) else (nI (a_m A - 1), (cpr (fun j => a_v A (408 * (a_m A - 1) + j)) (a_s A), a_m A - 1, a_v A, a_c A, a_c A (a_m A - 1), a_t A, a_n A))
def opAppend (A : AS) (c : Int32) : Int32 × AS := if bin c 1 255 = 0 then (eI, A) else if a_n A = 140 then (eC, A) else (nI (a_n A + 1), (a_s A, a_m A, a_v A, a_c A, a_h A, sU (a_t A) (a_n A) c, a_n A + 1))
def opClear (A : AS) : Int32 × AS := (nI (a_n A), (a_s A, a_m A, a_v A, a_c A, a_h A, a_t A, 0))
def vCount (A : AS) (w : Int32) : Int32 := if w = 0 then a_s A 76 else if w = 1 then a_s A 43 else if w = 2 then a_s A 40 else if w = 3 then a_s A 41 else if w = 4 then a_s A 42 else if w = 5 then a_s A 77 else if w = 6 then a_s A 254 + a_s A 331 else if w = 7 then sls (a_s A) (nn (a_s A 43)) else if w = 8 then nI (a_m A) else if w = 9 then nI (a_n A) else if w = 10 then cks (a_s A) 0 8 else if w = 11 then cks (a_s A) 1 8 else if w = 12 then cks (a_s A) 2 8 else eI
def vChannel (A : AS) (c w : Int32) : Int32 := if bin c 0 7 = 0 ∨ bin w 0 7 = 0 then eI else if w = 5 then (if a_s A (78 + nn c) = -1 then eN else a_s A (78 + nn c)) else if w = 6 then cor (a_s A) (a_s A (78 + nn c)) (a_s A 86) (a_s A 87) else if w = 7 then cen (a_s A) c (nn (a_s A 43)) else a_s A (5 * nn c + nn w)
def vEntry (A : AS) (e w : Int32) : Int32 := if e < 0 ∨ bin w 0 1 = 0 then eI else if e < a_s A 43 then a_s A (44 + 2 * nn e + nn w) else eN
def vValue (A : AS) (c t : Int32) : Int32 := if bin c 0 7 = 0 ∨ bin t 0 9999 = 0 then eI else cvl (a_s A) (nn c) t
def vSample (A : AS) (b w : Int32) : Int32 := if b < 0 ∨ bin w 0 4 = 0 then eI else if b < a_s A 77 then a_s A (94 + 5 * (nn (a_s A 77) - 1 - nn b) + nn w) else eN
def vAccount (A : AS) (w : Int32) : Int32 := if bin w 0 6 = 0 then eI else if w < 6 then a_s A (88 + nn w) else a_s A 88 + a_s A 89 + a_s A 90 + a_s A 91
def vHeld (A : AS) (w : Int32) : Int32 := if bin w 0 2 = 0 then eI else if w = 0 then FP.f2i (a_h A) else if w = 1 then rdb (a_h A) (a_s A 41) (a_s A 42) else FP.f2i (FP.fmul (a_h A) 1132462080)
def vWould (A : AS) (e w : Int32) : Int32 := if bin e 0 (a_s A 43 - 1) = 0 ∨ bin w 0 2 = 0 then eI else if w = 0 then er (a_s A) (nn (a_s A 76)) (a_h A) (nn e) else if w = 1 then ec (a_s A) (nn (a_s A 76)) (a_h A) (nn e) else ee (a_s A) (nn (a_s A 76)) (a_h A) (nn e)
def vWhy (A : AS) (e : Int32) : Int32 := if bin e 0 (a_s A 43 - 1) = 0 then eI else
  if ee (a_s A) (nn (a_s A 76)) (a_h A) (nn e) = 0 then 0 else if ¬ ec (a_s A) (nn (a_s A 76)) (a_h A) (nn e) = 0 then (if 0 < ec (a_s A) (nn (a_s A 76)) (a_h A) (nn e) then 1 else 2)
  else if rdb (eh (a_s A) (nn (a_s A 76)) (a_h A) (nn e + 1)) 1000 0 = pvl (a_s A) (pn (a_s A) (nn e)) (nI (et (a_s A) (nn (a_s A 76)) (nn e) + qn (a_s A) (nn e))) then 3 else 4
/-- the check's memory holds the state -/
def MM (d : Dt) (A : AS) : Prop := d.1 215 = a_s A ∧ a_m A ≤ 5 ∧ d.1 214 5 = nI (a_m A) ∧ d.1 217 = a_v A ∧ d.2 218 = a_c A ∧ d.2 214 6 = a_h A ∧ d.1 219 = a_t A ∧ d.1 214 8 = nI (a_n A)
abbrev mfE (a _j : Nat) : Prop := 214 ≤ a
abbrev mfr (d d' : Dt) : Prop := fr mfE mfE d d'
theorem MM.th {d : Dt} {A : AS} (h : MM d A) : MM (u2 d.1 214 0 0, d.2) A := h
theorem MM.fr' {d d' : Dt} {A : AS} {E EF : Nat → Nat → Prop} (h : MM d A) (hf : fr E EF d d') (h1 : ∀ j, ¬ E 215 j) (h2 : ¬ E 214 5) (h3 : ∀ j, ¬ E 217 j) (h4 : ∀ j, ¬ EF 218 j) (h5 : ¬ EF 214 6) (h6 : ∀ j, ¬ E 219 j) (h7 : ¬ E 214 8) : MM d' A :=
  ⟨(hf.row h1).trans h.1, h.2.1, (hf.1 214 5 h2).trans h.2.2.1, (hf.row h3).trans h.2.2.2.1, (hf.rowf h4).trans h.2.2.2.2.1, (hf.2 214 6 h5).trans h.2.2.2.2.2.1, (hf.row h6).trans h.2.2.2.2.2.2.1, (hf.1 214 8 h7).trans h.2.2.2.2.2.2.2⟩
theorem MM.sim {d d' : Dt} {A : AS} (h : MM d A) (hf : simD d d') : MM d' A := h.fr' hf (by intro j; omega) (by omega) (by intro j; omega) (by intro j; omega) (by omega) (by intro j; omega) (by omega)
theorem MM.act {d d' : Dt} {A : AS} (h : MM d A) (hf : fr actE actF d d') (e1 : d'.1 214 5 = nI (hm (a_m A) + 1)) (e2 : d'.1 217 = hsv2 (a_m A) (a_v A) (a_s A)) (e3 : d'.2 218 = hsc2 (a_m A) (a_c A) (a_h A)) : MM d' (rec A (a_s A) (a_h A)) :=
  ⟨(hf.row (by intro j; show ¬ (_ ∨ _); omega)).trans h.1, by show hm _ + 1 ≤ 5; unfold hm; have := h.2.1; split <;> omega, e1, e2, e3, (hf.2 214 6 (by show ¬ (_ = _); omega)).trans h.2.2.2.2.2.1, (hf.row (by intro j; show ¬ (_ ∨ _); omega)).trans h.2.2.2.2.2.2.1, (hf.1 214 8 (by show ¬ (_ ∨ _); omega)).trans h.2.2.2.2.2.2.2⟩
theorem MM.row {d d' : Dt} {A : AS} {s : SS} (h : MM d A) (hf : fr (rE 215) nE d d') (e : d'.1 215 = s) : MM d' (s, A.2) :=
  ⟨e, h.2.1, (hf.1 214 5 (by show ¬ (_ = _); omega)).trans h.2.2.1, (hf.row (by intro j; show ¬ (_ = _); omega)).trans h.2.2.2.1, (hf.rowf (fun j => id)).trans h.2.2.2.2.1, (hf.2 214 6 id).trans h.2.2.2.2.2.1, (hf.row (by intro j; show ¬ (_ = _); omega)).trans h.2.2.2.2.2.2.1, (hf.1 214 8 (by show ¬ (_ = _); omega)).trans h.2.2.2.2.2.2.2⟩
theorem mfr.th {d : Dt} : mfr d (u2 d.1 214 0 0, d.2) := fr.i fr.rfl _ (Nat.le_refl 214)
theorem fr.mf {d d' : Dt} {E EF : Nat → Nat → Prop} (h : fr E EF d d') (h1 : ∀ a j, E a j → 214 ≤ a) (h2 : ∀ a j, EF a j → 214 ≤ a) : mfr d d' := fr.mono h h1 h2
theorem act_mf {d d' : Dt} (h : fr actE actF d d') : mfr d d' := h.mf (by intro a j; omega) (by intro a j; omega)
theorem row_mf {d d' : Dt} (h : fr (rE 215) nE d d') : mfr d d' := h.mf (by intro a j; omega) (fun _ _ => False.elim)
theorem sim_mf {d d' : Dt} (h : simD d d') : mfr d d' := h.mf (by intro a j; omega) (by intro a j; omega)
/-- a range test that went well -/
theorem bin_t {v : Int32} {b : Nat} (hb : b < 2 ^ 31) (h : ¬ bin v 0 (nI b) = 0) : ∃ j, j ≤ b ∧ v = nI j := by
  unfold bin at h
  by_cases c : 0 ≤ v ∧ v ≤ nI b
  · have h1 : ¬ v < 0 := Int32.not_lt.mpr c.1
    obtain ⟨j, hj, rfl⟩ := nI_of h1
    exact ⟨j, (nI_leI hj hb).mp c.2, rfl⟩
  · rw [if_neg c] at h; exact absurd rfl h
theorem bin_1 {v a b : Int32} (h : ¬ bin v a b = 0) : bin v a b = 1 := (bin_01 v a b).resolve_left h
theorem isrc_1 {k l x p : Int32} (h : ¬ isrc k l x p = 0) : isrc k l x p = 1 := (isrc_01 k l x p).resolve_left h
theorem nn_nI {j : Nat} (h : j < 2 ^ 31) : nn (nI j) = j := nI_clamp h
