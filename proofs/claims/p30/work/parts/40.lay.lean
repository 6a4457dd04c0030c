/-! THE LAYOUT behind the two constructors: 214 cells, their kinds, lengths, references, widths -/
def kndL : List Nat := [10, 6, 3, 7, 14, 7, 14, 7, 14, 2, 7, 14, 7, 14, 7, 14, 4, 3, 7, 14, 7, 14, 7, 14, 4, 3, 7, 14, 7, 14, 7, 14, 1, 15, 6, 3, 7, 14, 7, 14, 7, 14, 2, 7, 14, 7, 14, 7, 14, 4, 3, 7, 14, 7, 14, 7, 14, 4, 3, 7, 14, 7, 14, 7, 14, 6, 3, 7, 14, 7, 14, 7, 14, 2, 7, 14, 7, 14, 7, 14, 4, 3, 7, 14, 7, 14, 7, 14, 4, 3, 7, 14, 7, 14, 7, 14, 6, 3, 7, 14, 7, 14, 7, 14, 2, 7, 14, 7, 14, 7, 14, 4, 3, 7, 14, 7, 14, 7, 14, 4, 3, 7, 14, 7, 14, 7, 14, 6, 3, 7, 14, 7, 14, 7, 14, 2, 7, 14, 7, 14, 7, 14, 4, 3, 7, 14, 7, 14, 7, 14, 4, 3, 7, 14, 7, 14, 7, 14, 6, 3, 7, 14, 7, 14, 7, 14, 2, 7, 14, 7, 14, 7, 14, 4, 3, 7, 14, 7, 14, 7, 14, 4, 3, 7, 14, 7, 14, 7, 14, 0, 5, 7, 14, 7, 14, 7, 14, 3, 7, 14, 7, 14, 7, 14, 9, 8, 12, 3, 7, 14, 7, 14, 7, 14]
def lenL : List Nat := [0, 0, 0, 0, 40, 0, 32, 0, 3, 0, 0, 160, 0, 10, 0, 6, 0, 0, 0, 40, 0, 32, 0, 3, 0, 0, 0, 40, 0, 32, 0, 3, 0, 5, 0, 0, 0, 40, 0, 32, 0, 3, 0, 0, 160, 0, 10, 0, 6, 0, 0, 0, 40, 0, 32, 0, 3, 0, 0, 0, 40, 0, 32, 0, 3, 0, 0, 0, 40, 0, 32, 0, 3, 0, 0, 160, 0, 10, 0, 6, 0, 0, 0, 40, 0, 32, 0, 3, 0, 0, 0, 40, 0, 32, 0, 3, 0, 0, 0, 40, 0, 32, 0, 3, 0, 0, 160, 0, 10, 0, 6, 0, 0, 0, 40, 0, 32, 0, 3, 0, 0, 0, 40, 0, 32, 0, 3, 0, 0, 0, 40, 0, 32, 0, 3, 0, 0, 160, 0, 10, 0, 6, 0, 0, 0, 40, 0, 32, 0, 3, 0, 0, 0, 40, 0, 32, 0, 3, 0, 0, 0, 40, 0, 32, 0, 3, 0, 0, 160, 0, 10, 0, 6, 0, 0, 0, 40, 0, 32, 0, 3, 0, 0, 0, 40, 0, 32, 0, 3, 0, 0, 0, 16, 0, 16, 0, 32, 0, 0, 40, 0, 32, 0, 3, 0, 0, 140, 0, 0, 40, 0, 32, 0, 3]
def rfL : List (List (Option Nat)) := [[some 1, some 32, some 189, some 190, some 197, some 204], [some 2, some 9, some 12, some 14, some 16, some 24], [some 3, some 5, some 7], [none, some 4], [], [none, some 6], [], [none, some 8], [], [some 10], [none, some 11], [], [none, some 13], [], [none, some 15], [], [some 17], [some 18, some 20, some 22], [none, some 19], [], [none, some 21], [], [none, some 23], [], [some 25], [some 26, some 28, some 30], [none, some 27], [], [none, some 29], [], [none, some 31], [], [some 33], [some 34, some 65, some 96, some 127, some 158], [some 35, some 42, some 45, some 47, some 49, some 57], [some 36, some 38, some 40], [none, some 37], [], [none, some 39], [], [none, some 41], [], [some 43], [none, some 44], [], [none, some 46], [], [none, some 48], [], [some 50], [some 51, some 53, some 55], [none, some 52], [], [none, some 54], [], [none, some 56], [], [some 58], [some 59, some 61, some 63], [none, some 60], [], [none, some 62], [], [none, some 64], [], [some 66, some 73, some 76, some 78, some 80, some 88], [some 67, some 69, some 71], [none, some 68], [], [none, some 70], [], [none, some 72], [], [some 74], [none, some 75], [], [none, some 77], [], [none, some 79], [], [some 81], [some 82, some 84, some 86], [none, some 83], [], [none, some 85], [], [none, some 87], [], [some 89], [some 90, some 92, some 94], [none, some 91], [], [none, some 93], [], [none, some 95], [], [some 97, some 104, some 107, some 109, some 111, some 119], [some 98, some 100, some 102], [none, some 99], [], [none, some 101], [], [none, some 103], [], [some 105], [none, some 106], [], [none, some 108], [], [none, some 110], [], [some 112], [some 113, some 115, some 117], [none, some 114], [], [none, some 116], [], [none, some 118], [], [some 120], [some 121, some 123, some 125], [none, some 122], [], [none, some 124], [], [none, some 126], [], [some 128, some 135, some 138, some 140, some 142, some 150], [some 129, some 131, some 133], [none, some 130], [], [none, some 132], [], [none, some 134], [], [some 136], [none, some 137], [], [none, some 139], [], [none, some 141], [], [some 143], [some 144, some 146, some 148], [none, some 145], [], [none, some 147], [], [none, some 149], [], [some 151], [some 152, some 154, some 156], [none, some 153], [], [none, some 155], [], [none, some 157], [], [some 159, some 166, some 169, some 171, some 173, some 181], [some 160, some 162, some 164], [none, some 161], [], [none, some 163], [], [none, some 165], [], [some 167], [none, some 168], [], [none, some 170], [], [none, some 172], [], [some 174], [some 175, some 177, some 179], [none, some 176], [], [none, some 178], [], [none, some 180], [], [some 182], [some 183, some 185, some 187], [none, some 184], [], [none, some 186], [], [none, some 188], [], [], [some 191, some 193, some 195], [none, some 192], [], [none, some 194], [], [none, some 196], [], [some 198, some 200, some 202], [none, some 199], [], [none, some 201], [], [none, some 203], [], [some 205, some 207], [some 206], [], [some 208, some 210, some 212], [none, some 209], [], [none, some 211], [], [none, some 213], []]
def wdL : List Nat := [0, 0, 0, 5, 0, 2, 0, 1, 0, 0, 5, 0, 1, 0, 1, 0, 0, 0, 5, 0, 2, 0, 1, 0, 0, 0, 5, 0, 2, 0, 1, 0, 0, 0, 0, 0, 5, 0, 2, 0, 1, 0, 0, 5, 0, 1, 0, 1, 0, 0, 0, 5, 0, 2, 0, 1, 0, 0, 0, 5, 0, 2, 0, 1, 0, 0, 0, 5, 0, 2, 0, 1, 0, 0, 5, 0, 1, 0, 1, 0, 0, 0, 5, 0, 2, 0, 1, 0, 0, 0, 5, 0, 2, 0, 1, 0, 0, 0, 5, 0, 2, 0, 1, 0, 0, 5, 0, 1, 0, 1, 0, 0, 0, 5, 0, 2, 0, 1, 0, 0, 0, 5, 0, 2, 0, 1, 0, 0, 0, 5, 0, 2, 0, 1, 0, 0, 5, 0, 1, 0, 1, 0, 0, 0, 5, 0, 2, 0, 1, 0, 0, 0, 5, 0, 2, 0, 1, 0, 0, 0, 5, 0, 2, 0, 1, 0, 0, 5, 0, 1, 0, 1, 0, 0, 0, 5, 0, 2, 0, 1, 0, 0, 0, 5, 0, 2, 0, 1, 0, 0, 0, 1, 0, 1, 0, 2, 0, 0, 5, 0, 2, 0, 1, 0, 0, 0, 0, 0, 5, 0, 2, 0, 1, 0]
def S1 : Sh := (214, fun k => kndL.getD k 0, fun k => lenL.getD k 0, fun k j => (rfL.getD k []).getD j none, fun k => nI (wdL.getD k 0))
def suL : List Nat := [2, 17, 25, 35, 50, 58, 66, 81, 89, 97, 112, 120, 128, 143, 151, 159, 174, 182, 197, 207]
def stL : List Nat := [1, 34, 65, 96, 127, 158]
/-- a table of width W with L places at t -/
def isT (t W L : Nat) : Prop := t + 1 < S1.1 ∧ S1.2.1 t = 7 ∧ S1.2.2.2.1 t 1 = some (t + 1) ∧ S1.2.2.2.2 t = nI W ∧ S1.2.1 (t + 1) = 14 ∧ S1.2.2.1 (t + 1) = L
theorem T_lt0 {t W L : Nat} (h : isT t W L) : t < S1.1 := Nat.lt_of_succ_lt h.1
theorem T_k0 {t W L : Nat} (h : isT t W L) : S1.2.1 t = 7 := h.2.1
theorem T_r0_1 {t W L : Nat} (h : isT t W L) : S1.2.2.2.1 t 1 = some (t + 1) := h.2.2.1
theorem T_w0 {t W L : Nat} (h : isT t W L) : S1.2.2.2.2 t = nI W := h.2.2.2.1
theorem T_lt1 {t W L : Nat} (h : isT t W L) : t + 1 < S1.1 := h.1
theorem T_k1 {t W L : Nat} (h : isT t W L) : S1.2.1 (t + 1) = 14 := h.2.2.2.2.1
theorem T_l1 {t W L : Nat} (h : isT t W L) : S1.2.2.1 (t + 1) = L := h.2.2.2.2.2
theorem su_lt0 {B : Nat} (h : B ∈ suL) : B < S1.1 := (show ∀ B ∈ suL, B < S1.1 by decide +kernel) B h
theorem su_k0 {B : Nat} (h : B ∈ suL) : S1.2.1 B = 3 := (show ∀ B ∈ suL, S1.2.1 B = 3 by decide +kernel) B h
theorem su_r0_0 {B : Nat} (h : B ∈ suL) : S1.2.2.2.1 B 0 = some (B + 1) := (show ∀ B ∈ suL, S1.2.2.2.1 B 0 = some (B + 1) by decide +kernel) B h
theorem su_r0_1 {B : Nat} (h : B ∈ suL) : S1.2.2.2.1 B 1 = some (B + 3) := (show ∀ B ∈ suL, S1.2.2.2.1 B 1 = some (B + 3) by decide +kernel) B h
theorem su_r0_2 {B : Nat} (h : B ∈ suL) : S1.2.2.2.1 B 2 = some (B + 5) := (show ∀ B ∈ suL, S1.2.2.2.1 B 2 = some (B + 5) by decide +kernel) B h
theorem su_lt1 {B : Nat} (h : B ∈ suL) : (B + 1) < S1.1 := (show ∀ B ∈ suL, (B + 1) < S1.1 by decide +kernel) B h
theorem su_k1 {B : Nat} (h : B ∈ suL) : S1.2.1 (B + 1) = 7 := (show ∀ B ∈ suL, S1.2.1 (B + 1) = 7 by decide +kernel) B h
theorem su_r1_1 {B : Nat} (h : B ∈ suL) : S1.2.2.2.1 (B + 1) 1 = some (B + 2) := (show ∀ B ∈ suL, S1.2.2.2.1 (B + 1) 1 = some (B + 2) by decide +kernel) B h
theorem su_w1 {B : Nat} (h : B ∈ suL) : S1.2.2.2.2 (B + 1) = 5 := (show ∀ B ∈ suL, S1.2.2.2.2 (B + 1) = 5 by decide +kernel) B h
theorem su_lt2 {B : Nat} (h : B ∈ suL) : (B + 2) < S1.1 := (show ∀ B ∈ suL, (B + 2) < S1.1 by decide +kernel) B h
theorem su_k2 {B : Nat} (h : B ∈ suL) : S1.2.1 (B + 2) = 14 := (show ∀ B ∈ suL, S1.2.1 (B + 2) = 14 by decide +kernel) B h
theorem su_l2 {B : Nat} (h : B ∈ suL) : S1.2.2.1 (B + 2) = 40 := (show ∀ B ∈ suL, S1.2.2.1 (B + 2) = 40 by decide +kernel) B h
theorem su_lt3 {B : Nat} (h : B ∈ suL) : (B + 3) < S1.1 := (show ∀ B ∈ suL, (B + 3) < S1.1 by decide +kernel) B h
theorem su_k3 {B : Nat} (h : B ∈ suL) : S1.2.1 (B + 3) = 7 := (show ∀ B ∈ suL, S1.2.1 (B + 3) = 7 by decide +kernel) B h
theorem su_r3_1 {B : Nat} (h : B ∈ suL) : S1.2.2.2.1 (B + 3) 1 = some (B + 4) := (show ∀ B ∈ suL, S1.2.2.2.1 (B + 3) 1 = some (B + 4) by decide +kernel) B h
theorem su_w3 {B : Nat} (h : B ∈ suL) : S1.2.2.2.2 (B + 3) = 2 := (show ∀ B ∈ suL, S1.2.2.2.2 (B + 3) = 2 by decide +kernel) B h
theorem su_lt4 {B : Nat} (h : B ∈ suL) : (B + 4) < S1.1 := (show ∀ B ∈ suL, (B + 4) < S1.1 by decide +kernel) B h
theorem su_k4 {B : Nat} (h : B ∈ suL) : S1.2.1 (B + 4) = 14 := (show ∀ B ∈ suL, S1.2.1 (B + 4) = 14 by decide +kernel) B h
theorem su_l4 {B : Nat} (h : B ∈ suL) : S1.2.2.1 (B + 4) = 32 := (show ∀ B ∈ suL, S1.2.2.1 (B + 4) = 32 by decide +kernel) B h
theorem su_lt5 {B : Nat} (h : B ∈ suL) : (B + 5) < S1.1 := (show ∀ B ∈ suL, (B + 5) < S1.1 by decide +kernel) B h
theorem su_k5 {B : Nat} (h : B ∈ suL) : S1.2.1 (B + 5) = 7 := (show ∀ B ∈ suL, S1.2.1 (B + 5) = 7 by decide +kernel) B h
theorem su_r5_1 {B : Nat} (h : B ∈ suL) : S1.2.2.2.1 (B + 5) 1 = some (B + 6) := (show ∀ B ∈ suL, S1.2.2.2.1 (B + 5) 1 = some (B + 6) by decide +kernel) B h
theorem su_w5 {B : Nat} (h : B ∈ suL) : S1.2.2.2.2 (B + 5) = 1 := (show ∀ B ∈ suL, S1.2.2.2.2 (B + 5) = 1 by decide +kernel) B h
theorem su_lt6 {B : Nat} (h : B ∈ suL) : (B + 6) < S1.1 := (show ∀ B ∈ suL, (B + 6) < S1.1 by decide +kernel) B h
theorem su_k6 {B : Nat} (h : B ∈ suL) : S1.2.1 (B + 6) = 14 := (show ∀ B ∈ suL, S1.2.1 (B + 6) = 14 by decide +kernel) B h
theorem su_l6 {B : Nat} (h : B ∈ suL) : S1.2.2.1 (B + 6) = 3 := (show ∀ B ∈ suL, S1.2.2.1 (B + 6) = 3 by decide +kernel) B h
theorem su_T1 {B : Nat} (h : B ∈ suL) : isT (B + 1) 5 40 := by unfold isT; exact (show ∀ B ∈ suL, B + 1 + 1 < S1.1 ∧ S1.2.1 (B + 1) = 7 ∧ S1.2.2.2.1 (B + 1) 1 = some (B + 1 + 1) ∧ S1.2.2.2.2 (B + 1) = nI 5 ∧ S1.2.1 (B + 1 + 1) = 14 ∧ S1.2.2.1 (B + 1 + 1) = 40 by decide +kernel) B h
theorem su_T3 {B : Nat} (h : B ∈ suL) : isT (B + 3) 2 32 := by unfold isT; exact (show ∀ B ∈ suL, B + 3 + 1 < S1.1 ∧ S1.2.1 (B + 3) = 7 ∧ S1.2.2.2.1 (B + 3) 1 = some (B + 3 + 1) ∧ S1.2.2.2.2 (B + 3) = nI 2 ∧ S1.2.1 (B + 3 + 1) = 14 ∧ S1.2.2.1 (B + 3 + 1) = 32 by decide +kernel) B h
theorem su_T5 {B : Nat} (h : B ∈ suL) : isT (B + 5) 1 3 := by unfold isT; exact (show ∀ B ∈ suL, B + 5 + 1 < S1.1 ∧ S1.2.1 (B + 5) = 7 ∧ S1.2.2.2.1 (B + 5) 1 = some (B + 5 + 1) ∧ S1.2.2.2.2 (B + 5) = nI 1 ∧ S1.2.1 (B + 5 + 1) = 14 ∧ S1.2.2.1 (B + 5 + 1) = 3 by decide +kernel) B h
theorem sa_lt0 {A : Nat} (h : A ∈ stL) : A < S1.1 := (show ∀ A ∈ stL, A < S1.1 by decide +kernel) A h
theorem sa_k0 {A : Nat} (h : A ∈ stL) : S1.2.1 A = 6 := (show ∀ A ∈ stL, S1.2.1 A = 6 by decide +kernel) A h
theorem sa_r0_0 {A : Nat} (h : A ∈ stL) : S1.2.2.2.1 A 0 = some (A + 1) := (show ∀ A ∈ stL, S1.2.2.2.1 A 0 = some (A + 1) by decide +kernel) A h
theorem sa_r0_1 {A : Nat} (h : A ∈ stL) : S1.2.2.2.1 A 1 = some (A + 8) := (show ∀ A ∈ stL, S1.2.2.2.1 A 1 = some (A + 8) by decide +kernel) A h
theorem sa_r0_2 {A : Nat} (h : A ∈ stL) : S1.2.2.2.1 A 2 = some (A + 11) := (show ∀ A ∈ stL, S1.2.2.2.1 A 2 = some (A + 11) by decide +kernel) A h
theorem sa_r0_3 {A : Nat} (h : A ∈ stL) : S1.2.2.2.1 A 3 = some (A + 13) := (show ∀ A ∈ stL, S1.2.2.2.1 A 3 = some (A + 13) by decide +kernel) A h
theorem sa_r0_4 {A : Nat} (h : A ∈ stL) : S1.2.2.2.1 A 4 = some (A + 15) := (show ∀ A ∈ stL, S1.2.2.2.1 A 4 = some (A + 15) by decide +kernel) A h
theorem sa_r0_5 {A : Nat} (h : A ∈ stL) : S1.2.2.2.1 A 5 = some (A + 23) := (show ∀ A ∈ stL, S1.2.2.2.1 A 5 = some (A + 23) by decide +kernel) A h
theorem sa_lt8 {A : Nat} (h : A ∈ stL) : (A + 8) < S1.1 := (show ∀ A ∈ stL, (A + 8) < S1.1 by decide +kernel) A h
theorem sa_k8 {A : Nat} (h : A ∈ stL) : S1.2.1 (A + 8) = 2 := (show ∀ A ∈ stL, S1.2.1 (A + 8) = 2 by decide +kernel) A h
theorem sa_r8_0 {A : Nat} (h : A ∈ stL) : S1.2.2.2.1 (A + 8) 0 = some (A + 9) := (show ∀ A ∈ stL, S1.2.2.2.1 (A + 8) 0 = some (A + 9) by decide +kernel) A h
theorem sa_lt15 {A : Nat} (h : A ∈ stL) : (A + 15) < S1.1 := (show ∀ A ∈ stL, (A + 15) < S1.1 by decide +kernel) A h
theorem sa_k15 {A : Nat} (h : A ∈ stL) : S1.2.1 (A + 15) = 4 := (show ∀ A ∈ stL, S1.2.1 (A + 15) = 4 by decide +kernel) A h
theorem sa_r15_0 {A : Nat} (h : A ∈ stL) : S1.2.2.2.1 (A + 15) 0 = some (A + 16) := (show ∀ A ∈ stL, S1.2.2.2.1 (A + 15) 0 = some (A + 16) by decide +kernel) A h
theorem sa_lt23 {A : Nat} (h : A ∈ stL) : (A + 23) < S1.1 := (show ∀ A ∈ stL, (A + 23) < S1.1 by decide +kernel) A h
theorem sa_k23 {A : Nat} (h : A ∈ stL) : S1.2.1 (A + 23) = 4 := (show ∀ A ∈ stL, S1.2.1 (A + 23) = 4 by decide +kernel) A h
theorem sa_r23_0 {A : Nat} (h : A ∈ stL) : S1.2.2.2.1 (A + 23) 0 = some (A + 24) := (show ∀ A ∈ stL, S1.2.2.2.1 (A + 23) 0 = some (A + 24) by decide +kernel) A h
theorem sa_T9 {A : Nat} (h : A ∈ stL) : isT (A + 9) 5 160 := by unfold isT; exact (show ∀ A ∈ stL, A + 9 + 1 < S1.1 ∧ S1.2.1 (A + 9) = 7 ∧ S1.2.2.2.1 (A + 9) 1 = some (A + 9 + 1) ∧ S1.2.2.2.2 (A + 9) = nI 5 ∧ S1.2.1 (A + 9 + 1) = 14 ∧ S1.2.2.1 (A + 9 + 1) = 160 by decide +kernel) A h
theorem sa_T11 {A : Nat} (h : A ∈ stL) : isT (A + 11) 1 10 := by unfold isT; exact (show ∀ A ∈ stL, A + 11 + 1 < S1.1 ∧ S1.2.1 (A + 11) = 7 ∧ S1.2.2.2.1 (A + 11) 1 = some (A + 11 + 1) ∧ S1.2.2.2.2 (A + 11) = nI 1 ∧ S1.2.1 (A + 11 + 1) = 14 ∧ S1.2.2.1 (A + 11 + 1) = 10 by decide +kernel) A h
theorem sa_T13 {A : Nat} (h : A ∈ stL) : isT (A + 13) 1 6 := by unfold isT; exact (show ∀ A ∈ stL, A + 13 + 1 < S1.1 ∧ S1.2.1 (A + 13) = 7 ∧ S1.2.2.2.1 (A + 13) 1 = some (A + 13 + 1) ∧ S1.2.2.2.2 (A + 13) = nI 1 ∧ S1.2.1 (A + 13 + 1) = 14 ∧ S1.2.2.1 (A + 13 + 1) = 6 by decide +kernel) A h
theorem sa_B1 {A : Nat} (h : A ∈ stL) : A + 1 ∈ suL := (show ∀ A ∈ stL, A + 1 ∈ suL by decide +kernel) A h
theorem sa_B16 {A : Nat} (h : A ∈ stL) : A + 16 ∈ suL := (show ∀ A ∈ stL, A + 16 ∈ suL by decide +kernel) A h
theorem sa_B24 {A : Nat} (h : A ∈ stL) : A + 24 ∈ suL := (show ∀ A ∈ stL, A + 24 ∈ suL by decide +kernel) A h
theorem isT_lit {t W L : Nat} (h : t + 1 < S1.1 ∧ S1.2.1 t = 7 ∧ S1.2.2.2.1 t 1 = some (t + 1) ∧ S1.2.2.2.2 t = nI W ∧ S1.2.1 (t + 1) = 14 ∧ S1.2.2.1 (t + 1) = L) : isT t W L := h
section LAY
variable {G : GP} {Y Z : MD} {pc pc' tgt : Nat} {lo lo' : List (Option Value)} {st : List Value} {σ σ' : Sh} {d d' : Dt} {u : Nat × Nat} {Q : Option Value → Sh → Dt → Prop} {k : Nat}
theorem m_getWv {i ci j : Nat} {ds : String} {fin : Bool} {x : Int32} (fa : FA Y i ci j ds fin) (hd : decode (y_cc Y) pc = .ok (.getfield i, 3)) (hk : k < σ.1) (hc : σ.2.1 k = ci) (hj : (fco ci)[j]? = some 3) (hw : σ.2.2.2.2 k = x) (hp : pc + 3 = pc') (kk : mM G Y pc' lo (.int x :: st) σ d u Q) : mM G Y pc lo (.ref k :: st) σ d u Q := by
  subst hw; exact m_getW fa hd hk hc hj hp kk
theorem m_alenv {v : Int32} {kd L : Nat} (hd : decode (y_cc Y) pc = .ok (.arraylength, 1)) (hk : k < σ.1) (hc : σ.2.1 k = kd) (h12 : 12 ≤ kd) (h15 : kd ≤ 15) (hl : σ.2.2.1 k = L) (hv : Int32.ofNat L = v) (hp : pc + 1 = pc') (kk : mM G Y pc' lo (.int v :: st) σ d u Q) : mM G Y pc lo (.ref k :: st) σ d u Q := by
  subst hc; exact m_alen hd hk h12 h15 (by rw [hl]; exact hv) hp kk
theorem m_ialdN {i : Int32} {j L : Nat} (hd : decode (y_cc Y) pc = .ok (.iaload, 1)) (hk : k < σ.1) (hc : σ.2.1 k = 14) (hl : σ.2.2.1 k = L) (hi : i = nI j) (hj : j < L) (hL : L < 2 ^ 31) (hp : pc + 1 = pc') (kk : mM G Y pc' lo (.int (d.1 k j) :: st) σ d u Q) : mM G Y pc lo (.int i :: .ref k :: st) σ d u Q := by
  subst hi; subst hl; refine m_iald hd hk hc (vp_in_nI hj hL) hp ?_; rw [nI_clamp (Nat.lt_trans hj hL)]; exact kk
theorem m_caldN {i : Int32} {j L : Nat} (hd : decode (y_cc Y) pc = .ok (.caload, 1)) (hk : k < σ.1) (hc : σ.2.1 k = 12) (hl : σ.2.2.1 k = L) (hi : i = nI j) (hj : j < L) (hL : L < 2 ^ 31) (hp : pc + 1 = pc') (kk : mM G Y pc' lo (.int (d.1 k j) :: st) σ d u Q) : mM G Y pc lo (.int i :: .ref k :: st) σ d u Q := by
  subst hi; subst hl; refine m_cald hd hk hc (vp_in_nI hj hL) hp ?_; rw [nI_clamp (Nat.lt_trans hj hL)]; exact kk
theorem m_iastN {i : Int32} {x : Int32} {j L : Nat} (hd : decode (y_cc Y) pc = .ok (.iastore, 1)) (hk : k < σ.1) (hc : σ.2.1 k = 14) (hl : σ.2.2.1 k = L) (hi : i = nI j) (hj : j < L) (hL : L < 2 ^ 31) (hp : pc + 1 = pc') (kk : mM G Y pc' lo st σ (u2 d.1 k j x, d.2) u Q) : mM G Y pc lo (.int x :: .int i :: .ref k :: st) σ d u Q := by
  subst hi; subst hl; refine m_iast hd hk hc (vp_in_nI hj hL) hp ?_; rw [nI_clamp (Nat.lt_trans hj hL)]; exact kk
theorem m_castN {i : Int32} {x : Int32} {j L : Nat} (hd : decode (y_cc Y) pc = .ok (.castore, 1)) (hk : k < σ.1) (hc : σ.2.1 k = 12) (hl : σ.2.2.1 k = L) (hi : i = nI j) (hj : j < L) (hL : L < 2 ^ 31) (hp : pc + 1 = pc') (kk : mM G Y pc' lo st σ (u2 d.1 k j (vp_nar .char x), d.2) u Q) : mM G Y pc lo (.int x :: .int i :: .ref k :: st) σ d u Q := by
  subst hi; subst hl; refine m_cast hd hk hc (vp_in_nI hj hL) hp ?_; rw [nI_clamp (Nat.lt_trans hj hL)]; exact kk
theorem m_aaldN {i : Int32} {q j L : Nat} (hd : decode (y_cc Y) pc = .ok (.aaload, 1)) (hk : k < σ.1) (hc : σ.2.1 k = 15) (hl : σ.2.2.1 k = L) (hi : i = nI j) (hj : j < L) (hL : L < 2 ^ 31) (hq : σ.2.2.2.1 k j = some q) (hp : pc + 1 = pc') (kk : mM G Y pc' lo (.ref q :: st) σ d u Q) : mM G Y pc lo (.int i :: .ref k :: st) σ d u Q := by
  subst hi; subst hl; exact m_aald hd hk hc (vp_in_nI hj hL) (by rw [nI_clamp (Nat.lt_trans hj hL)]; exact hq) hp kk
theorem m_drop (i : Nat) (hlo' : lo.set i none = lo') (kk : mM G Y pc lo' st σ d u Q) (hz : (match lo[i - 1]? with | some (some v) => vct v == 1 | _ => true) = true := by rfl) : mM G Y pc lo st σ d u Q := by
  subst hlo'
  intro p e s m args below meth cd C d0 hd0 H locs ls str hH hL hlo hst
  refine kk p e s m args below meth cd C d0 hd0 H locs ls str hH hL ?_ hst
  obtain ⟨lv, h1, h2, h3⟩ := hlo
  refine ⟨lv, h1, by rw [List.length_set]; exact h2, fun j v hj hn => ?_⟩
  by_cases hji : i = j
  · subst hji; rw [List.getElem?_set] at hj; simp at hj
  · rw [List.getElem?_set_ne hji] at hj
    refine h3 j v hj (fun hc => ?_)
    have h0 := hn hc
    by_cases e : i = j + 1
    · subst e
      rw [Nat.add_sub_cancel, hj] at hz
      have hz2 : (vct v == 1) = true := hz
      rw [hc] at hz2; cases hz2
    · rwa [List.getElem?_set_ne e] at h0
end LAY
/-- an equation carried into an answer -/
theorem q_i {Q : Option Value → Sh → Dt → Prop} {x y : Int32} {σ : Sh} {d : Dt} (h : Q (some (.int y)) σ d) (e : x = y) : Q (some (.int x)) σ d := e ▸ h
theorem q_d {Q : Option Value → Sh → Dt → Prop} {v : Option Value} {σ : Sh} {d d2 : Dt} (h : Q v σ d2) (e : d = d2) : Q v σ d := e ▸ h
theorem q_f {Q : Option Value → Sh → Dt → Prop} {x y : UInt32} {σ : Sh} {d : Dt} (h : Q (some (.float y)) σ d) (e : x = y) : Q (some (.float x)) σ d := e ▸ h
theorem ne_nI {p k : Nat} (h : ¬ nI p = nI k) : p ≠ k := fun e => h (congrArg nI e)
