/-! TEXT: what is read from where, into which state -/
def skf (t : SS) (n : Nat) : Nat → Nat → Nat
  | 0, p => p
  | f + 1, p => if p < n ∧ t p = 32 then skf t n f (p + 1) else p
/-- the next place that has no space -/
def skp (t : SS) (n p : Nat) : Nat := skf t n (n - p) p
theorem skp_s {t : SS} {n p : Nat} (h : p < n) (h2 : t p = 32) : skp t n p = skp t n (p + 1) := by
  unfold skp
  rw [show n - p = (n - (p + 1)) + 1 by omega]
  show (if p < n ∧ t p = 32 then _ else _) = _
  rw [if_pos ⟨h, h2⟩]
theorem skp_n {t : SS} {n p : Nat} (h : ¬ (p < n ∧ t p = 32)) : skp t n p = p := by
  unfold skp
  cases hf : n - p with
  | zero => rfl
  | succ f => show (if p < n ∧ t p = 32 then _ else _) = _; rw [if_neg h]
theorem skp_le {t : SS} {n : Nat} : ∀ m p, p + m = n → skp t n p ≤ n ∧ p ≤ skp t n p
  | 0, p, h => by rw [skp_n (by omega)]; omega
  | m + 1, p, h => by
    by_cases c : p < n ∧ t p = 32
    · rw [skp_s c.1 c.2]; have := skp_le (t := t) (n := n) m (p + 1) (by omega); omega
    · rw [skp_n c]; omega
theorem skp_le' {t : SS} {n p : Nat} (h : p ≤ n) : skp t n p ≤ n ∧ p ≤ skp t n p := skp_le (n - p) p (by omega)
/-- the sign at a place, -1 behind the last -/
def sgn (t : SS) (n p : Nat) : Int32 := if p < n then t p else -1
/-- digits: the place behind them, their number (as far as it matters) -/
def dgf (t : SS) (n : Nat) : Nat → Nat → Int32 → Nat × Int32
  | 0, p, v => (p, v)
  | f + 1, p, v => if p < n ∧ ¬ bin (t p) 48 57 = 0 then dgf t n f (p + 1) (if v < 100000 then 10 * v + t p - 48 else v) else (p, v)
def dgt (t : SS) (n p : Nat) (v : Int32) : Nat × Int32 := dgf t n (n - p) p v
theorem dgt_s {t : SS} {n p : Nat} {v : Int32} (h : p < n) (h2 : ¬ bin (t p) 48 57 = 0) : dgt t n p v = dgt t n (p + 1) (if v < 100000 then 10 * v + t p - 48 else v) := by
  unfold dgt
  rw [show n - p = (n - (p + 1)) + 1 by omega]
  show (if p < n ∧ ¬ bin (t p) 48 57 = 0 then _ else _) = _
  rw [if_pos ⟨h, h2⟩]
theorem dgt_n {t : SS} {n p : Nat} {v : Int32} (h : ¬ (p < n ∧ ¬ bin (t p) 48 57 = 0)) : dgt t n p v = (p, v) := by
  unfold dgt
  cases hf : n - p with
  | zero => rfl
  | succ f => show (if p < n ∧ ¬ bin (t p) 48 57 = 0 then _ else _) = _; rw [if_neg h]
theorem dgt_le {t : SS} {n : Nat} : ∀ m p v, p + m = n → (dgt t n p v).1 ≤ n ∧ p ≤ (dgt t n p v).1
  | 0, p, v, h => by rw [dgt_n (by omega)]; constructor <;> omega
  | m + 1, p, v, h => by
    by_cases c : p < n ∧ ¬ bin (t p) 48 57 = 0
    · rw [dgt_s c.1 c.2]; have := dgt_le (t := t) (n := n) m (p + 1) (if v < 100000 then 10 * v + t p - 48 else v) (by omega); omega
    · rw [dgt_n c]; constructor <;> omega
/-- a number that is read: whether it is in order, the place then, the number -/
abbrev rdok (t : SS) (n : Nat) (lo hi : Int32) (q : Nat) : Prop := q < (dgt t n q 0).1 ∧ (sgn t n q = 48 → (dgt t n q 0).1 = q + 1) ∧ ¬ bin (dgt t n q 0).2 lo hi = 0
def rdp (t : SS) (n : Nat) (lo hi : Int32) (p : Nat) : Nat := if rdok t n lo hi (skp t n p) then (dgt t n (skp t n p) 0).1 else skp t n p
def rdv (t : SS) (n : Nat) (p : Nat) : Int32 := (dgt t n (skp t n p) 0).2
def rdr (t : SS) (n : Nat) (lo hi : Int32) (p : Nat) : Int32 := if rdok t n lo hi (skp t n p) then 1 else 0
/-- a sign that is taken if it is there -/
abbrev tkk (t : SS) (n : Nat) (c : Int32) (p : Nat) : Prop := sgn t n (skp t n p) = c
def tkp (t : SS) (n : Nat) (c : Int32) (p : Nat) : Nat := if tkk t n c p then skp t n p + 1 else skp t n p
def tkv (t : SS) (n : Nat) (c : Int32) (p : Nat) : Int32 := if tkk t n c p then 1 else 0
theorem tkv_y {t : SS} {n p : Nat} {c : Int32} (h : ¬ tkv t n c p = 0) : tkk t n c p := by unfold tkv at h; by_cases c : tkk t n c p; (exact c); (rw [if_neg c] at h; exact absurd rfl h)
theorem tkv_n {t : SS} {n p : Nat} {c : Int32} (h : tkv t n c p = 0) : ¬ tkk t n c p := fun c => by unfold tkv at h; rw [if_pos c] at h; exact absurd h (by decide)
theorem rdr_y {t : SS} {n p : Nat} {lo hi : Int32} (h : ¬ rdr t n lo hi p = 0) : rdok t n lo hi (skp t n p) := by unfold rdr at h; by_cases c : rdok t n lo hi (skp t n p); (exact c); (rw [if_neg c] at h; exact absurd rfl h)
theorem rdr_n {t : SS} {n p : Nat} {lo hi : Int32} (h : rdr t n lo hi p = 0) : ¬ rdok t n lo hi (skp t n p) := fun c => by unfold rdr at h; rw [if_pos c] at h; exact absurd h (by decide)
theorem tkv_01 (t : SS) (n : Nat) (c : Int32) (p : Nat) : tkv t n c p = 0 ∨ tkv t n c p = 1 := by unfold tkv; split; (exact Or.inr rfl); (exact Or.inl rfl)
theorem rdr_01 (t : SS) (n : Nat) (lo hi : Int32) (p : Nat) : rdr t n lo hi p = 0 ∨ rdr t n lo hi p = 1 := by unfold rdr; split; (exact Or.inr rfl); (exact Or.inl rfl)
theorem tkp_le {t : SS} {n p : Nat} {c : Int32} (h : p ≤ n) (hc : ¬ (-1 : Int32) = c) : tkp t n c p ≤ n := by
  have h1 := skp_le' (t := t) h
  unfold tkp
  by_cases hk : tkk t n c p
  · rw [if_pos hk]
    have : skp t n p < n := Nat.not_le.mp (fun h2 => hc (by unfold tkk sgn at hk; rw [if_neg (by omega)] at hk; exact hk))
    omega
  · rw [if_neg hk]; exact h1.1
theorem rdp_le {t : SS} {n p : Nat} {lo hi : Int32} (h : p ≤ n) : rdp t n lo hi p ≤ n := by
  have h1 := skp_le' (t := t) h
  unfold rdp
  split
  · exact (dgt_le (n - skp t n p) (skp t n p) 0 (by omega)).1
  · exact h1.1
/-- what an item is read as: whether it went well, the place, the state -/
abbrev PR : Type := Int32 × Nat × SS
def pEnd (t : SS) (n p : Nat) (s : SS) : PR := (tkv t n 59 p, tkp t n 59 p, s)
def pEnt2 (t : SS) (n : Nat) (pl q : Int32) (p : Nat) (s : SS) : PR := if tkk t n 59 p then (1, tkp t n 59 p, ins s (nn (s 43)) (nn (s 43)) pl q) else (0, tkp t n 59 p, s)
def pEnt1 (t : SS) (n : Nat) (pl : Int32) (p : Nat) (s : SS) : PR := if rdok t n 0 7 (skp t n p) then pEnt2 t n pl (rdv t n p) (rdp t n 0 7 p) s else (0, rdp t n 0 7 p, s)
def pEntry (t : SS) (n : Nat) (pl : Int32) (p : Nat) (s : SS) : PR := if ¬ tkk t n 58 p ∨ s 43 = 16 then (0, skp t n p, s) else pEnt1 t n pl (skp t n p + 1) s
def pRes (t : SS) (n c p : Nat) (s : SS) : PR := if rdok t n 0 31 (skp t n p) then pEnd t n (rdp t n 0 31 p) (sU s (5 * c + 4) (rdv t n p)) else (0, rdp t n 0 31 p, s)
def pRis (t : SS) (n c : Nat) (l sg : Int32) (p : Nat) (s : SS) : PR := if rdok t n 0 64 (skp t n p) then pEnd t n (rdp t n 0 64 p) (pso s c 1 l (sg * rdv t n p) 0) else (0, rdp t n 0 64 p, s)
def pJmp2 (t : SS) (n c : Nat) (l x : Int32) (p : Nat) (s : SS) : PR := if rdok t n 2 200 (skp t n p) then pEnd t n (rdp t n 2 200 p) (pso s c 2 l x (rdv t n p)) else (0, rdp t n 2 200 p, s)
def pJmp1 (t : SS) (n c : Nat) (l x : Int32) (p : Nat) (s : SS) : PR := if tkk t n 47 p then pJmp2 t n c l x (tkp t n 47 p) s else (0, tkp t n 47 p, s)
def pJmp (t : SS) (n c : Nat) (l : Int32) (p : Nat) (s : SS) : PR := if rdok t n 0 4095 (skp t n p) then pJmp1 t n c l (rdv t n p) (rdp t n 0 4095 p) s else (0, rdp t n 0 4095 p, s)
def pSrc3 (t : SS) (n c : Nat) (l : Int32) (p : Nat) (s : SS) : PR := if tkk t n 44 p then pJmp t n c l (tkp t n 44 p) s else pEnd t n (tkp t n 44 p) (pso s c 0 l 0 0)
def pSrc2 (t : SS) (n c : Nat) (l : Int32) (p : Nat) (s : SS) : PR := if tkk t n 45 p then pRis t n c l (-1) (tkp t n 45 p) s else pSrc3 t n c l (tkp t n 45 p) s
def pSrc1 (t : SS) (n c : Nat) (l : Int32) (p : Nat) (s : SS) : PR := if tkk t n 43 p then pRis t n c l 1 (tkp t n 43 p) s else pSrc2 t n c l (tkp t n 43 p) s
def pSrc (t : SS) (n c p : Nat) (s : SS) : PR := if rdok t n 0 4095 (skp t n p) then pSrc1 t n c (rdv t n p) (rdp t n 0 4095 p) s else (0, rdp t n 0 4095 p, s)
def pItem3 (t : SS) (n c p : Nat) (s : SS) : PR := if tkk t n 114 p then pRes t n c (tkp t n 114 p) s else pEntry t n (nI c) (tkp t n 114 p) s
def pItem2 (t : SS) (n c p : Nat) (s : SS) : PR := if tkk t n 61 p then pSrc t n c (tkp t n 61 p) s else pItem3 t n c (tkp t n 61 p) s
def pNum (t : SS) (n p : Nat) (s : SS) : PR := if rdok t n 0 7 (skp t n p) then pItem2 t n (nn (rdv t n p)) (rdp t n 0 7 p) s else (0, rdp t n 0 7 p, s)
def pItem1 (t : SS) (n p : Nat) (s : SS) : PR := if tkk t n 102 p then pEntry t n 9 (tkp t n 102 p) s else pNum t n (tkp t n 102 p) s
def pItem (t : SS) (n p : Nat) (s : SS) : PR := if tkk t n 103 p then pEntry t n 8 (tkp t n 103 p) s else pItem1 t n (tkp t n 103 p) s
/-- items one behind the other: whether all went well, how many, the place, the state -/
def pAll (t : SS) (n : Nat) : Nat → Nat → SS → Int32 × Nat × Nat × SS
  | 0, p, s => (1, 0, skp t n p, s)
  | f + 1, p, s => if skp t n p < n then
      (if (pItem t n (skp t n p) s).1 = 0 then (0, 1, (pItem t n (skp t n p) s).2)
       else ((pAll t n f (pItem t n (skp t n p) s).2.1 (pItem t n (skp t n p) s).2.2).1, (pAll t n f (pItem t n (skp t n p) s).2.1 (pItem t n (skp t n p) s).2.2).2.1 + 1, (pAll t n f (pItem t n (skp t n p) s).2.1 (pItem t n (skp t n p) s).2.2).2.2)) else (1, 0, skp t n p, s)
/-- all of a text read into a state -/
def pTxt (A : AS) : Int32 × Nat × Nat × SS := pAll (a_t A) (a_n A) (a_n A) 0 (a_s A)
def opLoad (A : AS) : Int32 × AS := if (pTxt A).1 = 0 then (-20000000 - nI (pTxt A).2.2.1, A) else (nI (pTxt A).2.1, ((pTxt A).2.2.2, hm (a_m A) + 1, hsv2 (a_m A) (a_v A) (a_s A), hsc2 (a_m A) (a_c A) (a_h A), a_h A, a_t A, 0))
/-- the check's memory while it reads -/
def TX (t : SS) (n p : Nat) (s : SS) (d : Dt) : Prop := d.1 219 = t ∧ d.1 214 8 = nI n ∧ d.1 214 15 = nI p ∧ d.1 215 = s
abbrev ldE (a j : Nat) : Prop := a = 215 ∨ (a = 214 ∧ (j = 15 ∨ j = 16))
theorem TX.nx {t : SS} {n p p' : Nat} {s : SS} {d : Dt} {x : Int32} (h : TX t n p s d) (e : x = nI p') : TX t n p' s (u2 d.1 214 15 x, d.2) :=
  ⟨(show u2 d.1 214 15 x 219 = _ from u2_ne (show 219 ≠ 214 by decide)).trans h.1, (show u2 d.1 214 15 x 214 8 = _ from u2_oth (show 8 ≠ 15 by decide) 214).trans h.2.1, (show u2 d.1 214 15 x 214 15 = _ from u2_same).trans e, (show u2 d.1 214 15 x 215 = _ from u2_ne (show 215 ≠ 214 by decide)).trans h.2.2.2⟩
theorem TX.nu {t : SS} {n p : Nat} {s : SS} {d : Dt} (h : TX t n p s d) (x : Int32) : TX t n p s (u2 d.1 214 16 x, d.2) :=
  ⟨(show u2 d.1 214 16 x 219 = _ from u2_ne (show 219 ≠ 214 by decide)).trans h.1, (show u2 d.1 214 16 x 214 8 = _ from u2_oth (show 8 ≠ 16 by decide) 214).trans h.2.1, (show u2 d.1 214 16 x 214 15 = _ from u2_oth (show 15 ≠ 16 by decide) 214).trans h.2.2.1, (show u2 d.1 214 16 x 215 = _ from u2_ne (show 215 ≠ 214 by decide)).trans h.2.2.2⟩
theorem TX.ro {t : SS} {n p : Nat} {s s' : SS} {d d' : Dt} (h : TX t n p s d) (f : fr (rE 215) nE d d') (e : d'.1 215 = s') : TX t n p s' d' :=
  ⟨(f.row (by intro j; show ¬ (_ = _); omega)).trans h.1, (f.1 214 8 (by show ¬ (_ = _); omega)).trans h.2.1, (f.1 214 15 (by show ¬ (_ = _); omega)).trans h.2.2.1, e⟩
theorem row_ld {d d' : Dt} (h : fr (rE 215) nE d d') : fr ldE nE d d' := h.mono (fun a j e => Or.inl e) (fun _ _ => False.elim)
/-- states that items leave -/
def okm (s : SS) : Prop := ∃ m, m ≤ 16 ∧ s 43 = nI m
theorem okm_n {s : SS} (h : okm s) : s 43 = nI (nn (s 43)) ∧ nn (s 43) ≤ 16 := by
  obtain ⟨m, h1, h2⟩ := h
  have : nn (s 43) = m := by rw [h2]; exact nn_nI (by omega)
  rw [this]; exact ⟨h2, h1⟩
