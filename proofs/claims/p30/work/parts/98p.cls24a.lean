/-! THE CLASS: a text read; words of its reader (place, where it failed, the draft) -/
abbrev okX (t : SS) (n : Nat) : Prop := ∀ j, j < n → ∃ c : Nat, 1 ≤ c ∧ c ≤ 255 ∧ t j = nI c
def chr (t : SS) (n p : Nat) : Int32 := if p < n then t p else 0
def ffa (f w : Int32) : Int32 := if f < 0 then w else f
def fld (f : Int32) : Int32 := if f < 0 then 0 else 1
def xEf (t : SS) (n : Nat) (c : Int32) (p : Nat) (f : Int32) : Int32 := if tkk t n c p then f else ffa f (nI (skp t n p))
def xNp (t : SS) (n p : Nat) : Nat := (dgt t n (skp t n p) 0).1
def xNf (t : SS) (n : Nat) (lo hi : Int32) (p : Nat) (f : Int32) : Int32 := if rdok t n lo hi (skp t n p) then f else ffa f (nI (skp t n p))
def rdc (t : SS) (n p : Nat) : Int32 := if 10000 < rdv t n p then 10000 else rdv t n p
abbrev CX : Type := Nat × Int32 × SS
def cTail (t : SS) (n c : Nat) (k l x y : Int32) (p : Nat) (f : Int32) (s : SS) : CX := (tkp t n 59 p, xEf t n 59 p f, if xEf t n 59 p f < 0 then pso s c k l x y else s)
def cSrc (t : SS) (n c p : Nat) (f : Int32) (s : SS) : CX :=
  if chr t n (skp t n (xNp t n p)) = 43 then cTail t n c 1 (rdc t n p) (rdc t n (skp t n (xNp t n p) + 1)) 0 (xNp t n (skp t n (xNp t n p) + 1)) (xNf t n 0 64 (skp t n (xNp t n p) + 1) (xNf t n 0 4095 p f)) s
  else if chr t n (skp t n (xNp t n p)) = 45 then cTail t n c 1 (rdc t n p) (-(rdc t n (skp t n (xNp t n p) + 1))) 0 (xNp t n (skp t n (xNp t n p) + 1)) (xNf t n 0 64 (skp t n (xNp t n p) + 1) (xNf t n 0 4095 p f)) s
  else if chr t n (skp t n (xNp t n p)) = 44 then cTail t n c 2 (rdc t n p) (rdc t n (skp t n (xNp t n p) + 1)) (rdc t n (tkp t n 47 (xNp t n (skp t n (xNp t n p) + 1)))) (xNp t n (tkp t n 47 (xNp t n (skp t n (xNp t n p) + 1)))) (xNf t n 2 200 (tkp t n 47 (xNp t n (skp t n (xNp t n p) + 1))) (xEf t n 47 (xNp t n (skp t n (xNp t n p) + 1)) (xNf t n 0 4095 (skp t n (xNp t n p) + 1) (xNf t n 0 4095 p f)))) s
  else cTail t n c 0 (rdc t n p) 0 0 (skp t n (xNp t n p)) (xNf t n 0 4095 p f) s
def cRes (t : SS) (n c p : Nat) (f : Int32) (s : SS) : CX := (tkp t n 59 (xNp t n p), xEf t n 59 (xNp t n p) (xNf t n 0 31 p f), if xEf t n 59 (xNp t n p) (xNf t n 0 31 p f) < 0 then sU s (5 * c + 4) (rdc t n p) else s)
def cEntB (t : SS) (n : Nat) (pl : Int32) (p : Nat) (f : Int32) (s : SS) : CX := (tkp t n 59 (xNp t n (tkp t n 58 p)), xEf t n 59 (xNp t n (tkp t n 58 p)) (xNf t n 0 7 (tkp t n 58 p) (xEf t n 58 p f)), if xEf t n 59 (xNp t n (tkp t n 58 p)) (xNf t n 0 7 (tkp t n 58 p) (xEf t n 58 p f)) < 0 then ins s (nn (s 43)) (nn (s 43)) pl (rdc t n (tkp t n 58 p)) else s)
def cEnt (t : SS) (n : Nat) (pl : Int32) (p : Nat) (f : Int32) (s : SS) : CX := if s 43 < 16 then cEntB t n pl p f s else cEntB t n pl (skp t n p) (ffa f (nI (skp t n p))) s
def cItem (t : SS) (n p : Nat) (f : Int32) (s : SS) : CX :=
  if chr t n (skp t n p) = 103 then cEnt t n 8 (skp t n p + 1) f s
  else if chr t n (skp t n p) = 102 then cEnt t n 9 (skp t n p + 1) f s
  else if chr t n (skp t n (xNp t n (skp t n p))) = 58 then cEnt t n (nI (nn (rdc t n (skp t n p)))) (skp t n (xNp t n (skp t n p))) (xNf t n 0 7 (skp t n p) f) s
  else if chr t n (skp t n (xNp t n (skp t n p))) = 61 then cSrc t n (nn (rdc t n (skp t n p))) (skp t n (xNp t n (skp t n p)) + 1) (xNf t n 0 7 (skp t n p) f) s
  else if chr t n (skp t n (xNp t n (skp t n p))) = 114 then cRes t n (nn (rdc t n (skp t n p))) (skp t n (xNp t n (skp t n p)) + 1) (xNf t n 0 7 (skp t n p) f) s
  else (skp t n (xNp t n (skp t n p)), ffa (xNf t n 0 7 (skp t n p) f) (nI (skp t n (xNp t n (skp t n p)))), s)
/-- the class's memory while it reads -/
def RX (t : SS) (n p : Nat) (f : Int32) (s : SS) (d : Dt) : Prop := d.1 205 1 = nI n ∧ (∀ j, j < n → d.1 206 j = t j) ∧ d.1 204 2 = nI p ∧ d.1 204 3 = f ∧ SR d 207 s
abbrev rxE (x _j : Nat) : Prop := x = 204 ∨ 207 ≤ x ∧ x ≤ 213
theorem RX.ps {t : SS} {n p p' : Nat} {f x : Int32} {s : SS} {d : Dt} (h : RX t n p f s d) (e : x = nI p') : RX t n p' f s (u2 d.1 204 2 x, d.2) := by
  have hf : fr (fun y _ => y = 204) nE d (u2 d.1 204 2 x, d.2) := fr.i fr.rfl _ rfl
  exact ⟨(hf.1 205 1 (by decide)).trans h.1, fun j hj => (hf.1 206 j (show ¬ (206 = 204) by decide)).trans (h.2.1 j hj), (show u2 d.1 204 2 x 204 2 = _ from u2_same).trans e, (show u2 d.1 204 2 x 204 3 = _ from u2_oth (by decide) 204).trans h.2.2.2.1, h.2.2.2.2.fr hf (fun j => show ¬ (209 = 204) by decide) (fun j => show ¬ (211 = 204) by decide) (fun j => show ¬ (213 = 204) by decide) (show ¬ (207 = 204) by decide)⟩
theorem RX.fa {t : SS} {n p : Nat} {f x : Int32} {s : SS} {d : Dt} (h : RX t n p f s d) : RX t n p x s (u2 d.1 204 3 x, d.2) := by
  have hf : fr (fun y _ => y = 204) nE d (u2 d.1 204 3 x, d.2) := fr.i fr.rfl _ rfl
  exact ⟨(hf.1 205 1 (by decide)).trans h.1, fun j hj => (hf.1 206 j (show ¬ (206 = 204) by decide)).trans (h.2.1 j hj), (show u2 d.1 204 3 x 204 2 = _ from u2_oth (by decide) 204).trans h.2.2.1, (show u2 d.1 204 3 x 204 3 = x from u2_same), h.2.2.2.2.fr hf (fun j => show ¬ (209 = 204) by decide) (fun j => show ¬ (211 = 204) by decide) (fun j => show ¬ (213 = 204) by decide) (show ¬ (207 = 204) by decide)⟩
theorem RX.su {t : SS} {n p : Nat} {f : Int32} {s s' : SS} {d d' : Dt} (h : RX t n p f s d) (hf : fr (suE 207) nE d d') (hS : SR d' 207 s') : RX t n p f s' d' :=
  ⟨(hf.1 205 1 (by omega)).trans h.1, fun j hj => (hf.1 206 j (by omega)).trans (h.2.1 j hj), (hf.1 204 2 (by omega)).trans h.2.2.1, (hf.1 204 3 (by omega)).trans h.2.2.2.1, hS⟩
theorem su_rx {d d' : Dt} (h : fr (suE 207) nE d d') : fr rxE nE d d' := h.mono (by intro x j z; omega) (fun _ _ => id)
theorem chr_no {t : SS} {n p : Nat} (h : ¬ p < n) : chr t n p = 0 := if_neg h
theorem chr_in {t : SS} {n p : Nat} (h : p < n) : chr t n p = t p := if_pos h
theorem chr_sgn {t : SS} {n p : Nat} {c : Int32} (h0 : ¬ (0 : Int32) = c) (h1 : ¬ (-1 : Int32) = c) : chr t n p = c ↔ sgn t n p = c := by
  unfold chr sgn
  by_cases h : p < n
  · rw [if_pos h, if_pos h]
  · rw [if_neg h, if_neg h]; exact ⟨fun q => absurd q h0, fun q => absurd q h1⟩
theorem chr_nar {t : SS} {n : Nat} (hx : okX t n) (p : Nat) : narrow .char (.int (chr t n p)) = .int (chr t n p) := by
  have hb : ∀ c : Nat, c ≤ 255 → narrow .char (.int (nI c)) = .int (nI c) := by
    intro c hc
    have : ∀ c : Fin 256, narrow .char (.int (nI c.1)) = .int (nI c.1) := by decide +kernel
    exact this ⟨c, by omega⟩
  by_cases h : p < n
  · rw [chr_in h]; obtain ⟨c, -, c2, c3⟩ := hx p h; rw [c3]; exact hb c c2
  · rw [chr_no h]; exact hb 0 (by decide)
theorem fld_01 (f : Int32) : fld f = 0 ∨ fld f = 1 := by unfold fld; split; (exact Or.inl rfl); (exact Or.inr rfl)
theorem fld_n {f : Int32} (h : fld f = 0) : f < 0 := by unfold fld at h; by_cases c : f < 0; (exact c); (rw [if_neg c] at h; exact absurd h (by decide))
theorem fld_y {f : Int32} (h : ¬ fld f = 0) : ¬ f < 0 := fun c => h (if_pos c)
theorem ffa_nn {f : Int32} {w : Nat} (hw : w < 2 ^ 31) : ¬ ffa f (nI w) < 0 := by
  unfold ffa
  by_cases c : f < 0
  · rw [if_pos c]; exact Int32.not_lt.mpr (nI_le (a := 0) (Nat.zero_le w) hw)
  · rw [if_neg c]; exact c
theorem dgV {t : SS} {n : Nat} (hx : okX t n) : ∀ m p kv, p + m = n → kv ≤ 1000008 → ∃ kv', (dgt t n p (nI kv)).2 = nI kv' ∧ kv' ≤ 1000008
  | 0, p, kv, h, hk => ⟨kv, by rw [dgt_n (by omega)], hk⟩
  | m + 1, p, kv, h, hk => by
    by_cases c : p < n ∧ ¬ bin (t p) 48 57 = 0
    · rw [dgt_s c.1 c.2]
      obtain ⟨c1, -, c2, c3⟩ := hx p c.1
      by_cases h5 : nI kv < 100000
      · rw [if_pos h5]
        have h6 : kv < 100000 := Nat.not_le.mp (fun z => Int32.not_lt.mpr (nI_le (a := 100000) z (by omega)) h5)
        have hb : ¬ bin (t p) 48 57 = 0 := c.2
        rw [c3] at hb
        have h7 : 48 ≤ c1 ∧ c1 ≤ 57 := by
          unfold bin at hb
          by_cases z : (48 : Int32) ≤ nI c1 ∧ nI c1 ≤ 57
          · exact ⟨(nI_leI (a := 48) (by decide) (by omega)).mp z.1, (nI_leI (b := 57) (by omega) (by decide)).mp z.2⟩
          · rw [if_neg z] at hb; exact absurd rfl hb
        have e : (10 : Int32) * nI kv + t p - 48 = nI (10 * kv + c1 - 48) := by
          rw [c3, show (10 : Int32) * nI kv = nI (10 * kv) from pk_mul 10 kv, nI_add]; exact pk_dif (b := 48) (by omega)
        rw [e]
        exact dgV hx m (p + 1) _ (by omega) (by omega)
      · rw [if_neg h5]; exact dgV hx m (p + 1) kv (by omega) hk
    · exact ⟨kv, by rw [dgt_n c], hk⟩
theorem rdv_kv {t : SS} {n p : Nat} (hx : okX t n) (hp : p ≤ n) : ∃ kv, rdv t n p = nI kv ∧ kv ≤ 1000008 := by
  have h1 := skp_le' (t := t) hp
  exact dgV hx (n - skp t n p) (skp t n p) 0 (by omega) (by decide)
theorem rdc_nI {t : SS} {n p : Nat} (hx : okX t n) (hp : p ≤ n) : rdc t n p = nI (nn (rdc t n p)) ∧ nn (rdc t n p) ≤ 10000 := by
  obtain ⟨kv, h1, h2⟩ := rdv_kv hx hp
  unfold rdc
  rw [h1]
  by_cases c : (10000 : Int32) < nI kv
  · rw [if_pos c]; exact ⟨rfl, by decide⟩
  · rw [if_neg c, nn_nI (by omega)]
    exact ⟨rfl, (nI_leI (b := 10000) (by omega) (by decide)).mp (Int32.not_lt.mp c)⟩
theorem bin_cap {kv : Nat} {lo hi : Int32} (hh : hi.toInt < 10000) (hk : kv ≤ 1000008) : bin (nI (min kv 10000)) lo hi = bin (nI kv) lo hi := by
  by_cases c : kv ≤ 10000
  · rw [Nat.min_eq_left c]
  · rw [Nat.min_eq_right (by omega)]
    unfold bin
    rw [if_neg (fun z => by have := Int32.le_iff_toInt_le.mp z.2; rw [nI_toInt (by omega)] at this; omega), if_neg (fun z => by have := Int32.le_iff_toInt_le.mp z.2; rw [nI_toInt (by omega)] at this; omega)]
theorem rdc_min {t : SS} {n p kv : Nat} (h : rdv t n p = nI kv) (hk : kv ≤ 1000008) : rdc t n p = nI (min kv 10000) := by
  unfold rdc
  rw [h]
  by_cases c : kv ≤ 10000
  · rw [if_neg (show ¬ (10000 : Int32) < nI kv from Int32.not_lt.mpr (nI_le (b := 10000) c (by decide))), Nat.min_eq_left c]
  · rw [if_pos (show (10000 : Int32) < nI kv from nI_lt (a := 10000) (by omega) (by omega)), Nat.min_eq_right (by omega)]; rfl
theorem xNp_le {t : SS} {n p : Nat} (hp : p ≤ n) : xNp t n p ≤ n := by
  have h1 := skp_le' (t := t) hp
  exact (dgt_le (n - skp t n p) (skp t n p) 0 (by omega)).1
theorem chr_lt {t : SS} {n p : Nat} {c : Int32} (h : chr t n p = c) (h0 : ¬ (0 : Int32) = c) : p < n := Nat.not_le.mp (fun z => h0 (by rw [chr_no (by omega)] at h; exact h))
