/-! CONSTRUCTORS: the memory as one function from cells to what they hold; blocks of new cells -/
abbrev VC : Type := Nat × Nat × (Nat → Option Nat) × Int32 × (Nat → Int32) × (Nat → UInt32)
def Vw (σ : Sh) (d : Dt) : Nat → VC := fun k => (σ.2.1 k, σ.2.2.1 k, σ.2.2.2.1 k, σ.2.2.2.2 k, d.1 k, d.2 k)
def fsh (ci len : Nat) : VC := (ci, len, fun _ => none, 0, fun _ => 0, fun _ => 0)
def ov (M : Nat → VC) (a n : Nat) (B : Nat → VC) : Nat → VC := fun k => if a ≤ k ∧ k < a + n then B (k - a) else M k
def bn (B : Nat → VC) (m : Nat) (c : VC) : Nat → VC := fun i => if i = m then c else B i
def bo (B : Nat → VC) (m : Nat) (B2 : Nat → VC) : Nat → VC := fun i => if i < m then B i else B2 (i - m)
def cv_rf (c : VC) (j q : Nat) : VC := (c.1, c.2.1, fun b => if b = j then some q else c.2.2.1 b, c.2.2.2.1, c.2.2.2.2.1, c.2.2.2.2.2)
def cv_w (c : VC) (x : Int32) : VC := (c.1, c.2.1, c.2.2.1, x, c.2.2.2.2.1, c.2.2.2.2.2)
def cv_in (c : VC) (j : Nat) (x : Int32) : VC := (c.1, c.2.1, c.2.2.1, c.2.2.2.1, fun b => if b = j then x else c.2.2.2.2.1 b, c.2.2.2.2.2)
theorem ov_new {M B : Nat → VC} {a n : Nat} {c : VC} : (fun k => if k = a + n then c else ov M a n B k) = ov M a (n + 1) (bn B n c) := by
  funext k
  unfold ov bn
  by_cases h : k = a + n
  · rw [if_pos h, if_pos (by omega), if_pos (by omega)]
  · rw [if_neg h]
    by_cases h2 : a ≤ k ∧ k < a + n
    · rw [if_pos h2, if_pos (by omega), if_neg (by omega)]
    · rw [if_neg h2, if_neg (by omega)]
theorem ov_set {M B : Nat → VC} {a n m : Nat} {c : VC} (hm : m < n) : (fun k => if k = a + m then c else ov M a n B k) = ov M a n (bn B m c) := by
  funext k
  unfold ov bn
  by_cases h : k = a + m
  · rw [if_pos h, if_pos (by omega), if_pos (by omega)]
  · rw [if_neg h]
    by_cases h2 : a ≤ k ∧ k < a + n
    · rw [if_pos h2, if_pos h2, if_neg (by omega)]
    · rw [if_neg h2, if_neg h2]
theorem ov_at {M B : Nat → VC} {a n m : Nat} (hm : m < n) : ov M a n B (a + m) = B m := by
  unfold ov
  rw [if_pos (by omega), Nat.add_sub_cancel_left]
theorem ov_ov {M B B2 : Nat → VC} {a m s : Nat} (hs : 1 ≤ s) : ov (ov M a (m + 1) B) (a + m) s B2 = ov M a (m + s) (bo B m B2) := by
  funext k
  unfold ov bo
  by_cases h : a + m ≤ k ∧ k < a + m + s
  · rw [if_pos h, if_pos (by omega), if_neg (by omega)]; exact congrArg B2 (by omega)
  · rw [if_neg h]
    by_cases h2 : a ≤ k ∧ k < a + (m + 1)
    · rw [if_pos h2, if_pos (by omega), if_pos (by omega)]
    · rw [if_neg h2, if_neg (by omega)]
theorem ov_self {M : Nat → VC} {a : Nat} {c : VC} (h : M a = c) : M = ov M a 1 (fun _ => c) := by
  funext k
  unfold ov
  by_cases h2 : a ≤ k ∧ k < a + 1
  · rw [if_pos h2, show k = a by omega]; exact h
  · rw [if_neg h2]
theorem ov_none {M B : Nat → VC} {a : Nat} : M = ov M a 0 B := by
  funext k
  unfold ov
  rw [if_neg (by omega)]
section INIT
variable {G : GP} {Y Z : MD} {pc pc' : Nat} {lo : List (Option Value)} {st : List Value} {σ : Sh} {d : Dt} {u u' : Nat × Nat} {Q : Option Value → Sh → Dt → Prop} {M B : Nat → VC} {a n m : Nat}
theorem Vw_new {ci len : Nat} : Vw (sh_new σ ci len) (d_new σ d) = fun k => if k = σ.1 then fsh ci len else Vw σ d k := by
  funext k
  by_cases h : k = σ.1
  · rw [if_pos h]; unfold Vw sh_new d_new fsh; simp only [if_pos h]
  · rw [if_neg h]; unfold Vw sh_new d_new; simp only [if_neg h]
theorem Vw_rf {k j q : Nat} : Vw (sh_rf σ k j (some q)) d = fun x => if x = k then cv_rf (Vw σ d k) j q else Vw σ d x := by
  funext x
  by_cases h : x = k
  · rw [if_pos h, h]
    refine Prod.ext rfl (Prod.ext rfl (Prod.ext (funext fun b => ?_) rfl))
    show u2 σ.2.2.2.1 k j (some q) k b = if b = j then some q else σ.2.2.2.1 k b
    by_cases hb : b = j
    · rw [if_pos hb, hb, u2_same]
    · rw [if_neg hb, u2_oth hb]
  · rw [if_neg h]
    exact Prod.ext rfl (Prod.ext rfl (Prod.ext (u2_ne h) rfl))
theorem Vw_w {k : Nat} {x : Int32} : Vw (sh_w σ k x) d = fun y => if y = k then cv_w (Vw σ d k) x else Vw σ d y := by
  funext y
  by_cases h : y = k
  · rw [if_pos h, h]
    refine Prod.ext rfl (Prod.ext rfl (Prod.ext rfl (Prod.ext ?_ rfl)))
    show (if k = k then x else _) = x
    exact if_pos rfl
  · rw [if_neg h]
    refine Prod.ext rfl (Prod.ext rfl (Prod.ext rfl (Prod.ext ?_ rfl)))
    show (if y = k then x else σ.2.2.2.2 y) = σ.2.2.2.2 y
    exact if_neg h
theorem Vw_i {k j : Nat} {x : Int32} : Vw σ (u2 d.1 k j x, d.2) = fun y => if y = k then cv_in (Vw σ d k) j x else Vw σ d y := by
  funext y
  by_cases h : y = k
  · rw [if_pos h, h]
    refine Prod.ext rfl (Prod.ext rfl (Prod.ext rfl (Prod.ext rfl (Prod.ext (funext fun b => ?_) rfl))))
    show u2 d.1 k j x k b = if b = j then x else d.1 k b
    by_cases hb : b = j
    · rw [if_pos hb, hb, u2_same]
    · rw [if_neg hb, u2_oth hb]
  · rw [if_neg h]
    exact Prod.ext rfl (Prod.ext rfl (Prod.ext rfl (Prod.ext rfl (Prod.ext (u2_ne h) rfl))))
theorem z_at (eV : Vw σ d = ov M a n B) (hm : m < n) : Vw σ d (a + m) = B m := by rw [eV]; exact ov_at hm
theorem z_kd {ci : Nat} (eV : Vw σ d = ov M a n B) (hm : m < n) (hc : (B m).1 = ci) : σ.2.1 (a + m) = ci := (congrArg (fun c : VC => c.1) (z_at eV hm)).trans hc
theorem z_ln {L : Nat} (eV : Vw σ d = ov M a n B) (hm : m < n) (hc : (B m).2.1 = L) : σ.2.2.1 (a + m) = L := (congrArg (fun c : VC => c.2.1) (z_at eV hm)).trans hc
theorem z_rr {j q : Nat} (eV : Vw σ d = ov M a n B) (hm : m < n) (hc : (B m).2.2.1 j = some q) : σ.2.2.2.1 (a + m) j = some q := (congrArg (fun c : VC => c.2.2.1 j) (z_at eV hm)).trans hc
theorem z_ww {x : Int32} (eV : Vw σ d = ov M a n B) (hm : m < n) (hc : (B m).2.2.2.1 = x) : σ.2.2.2.2 (a + m) = x := (congrArg (fun c : VC => c.2.2.2.1) (z_at eV hm)).trans hc
theorem z_lt (e1 : σ.1 = a + n) (hm : m < n) : a + m < σ.1 := by rw [e1]; omega
theorem z_new {i ci : Nat} (fn : FN Y i ci) (hd : decode (y_cc Y) pc = .ok (.new i, 3)) (hu : u.1 + 1 ≤ (y_rm Y).cells ∧ u.2 + (fco ci).length ≤ (y_rm Y).slots) (hp : pc + 3 = pc') (hu' : (u.1 + 1, u.2 + (fco ci).length) = u') (e1 : σ.1 = a + n) (eV : Vw σ d = ov M a n B) (kk : ∀ σ' d', σ'.1 = a + (n + 1) → Vw σ' d' = ov M a (n + 1) (bn B n (fsh ci 0)) → mM G Y pc' lo (.ref (a + n) :: st) σ' d' u' Q) : mM G Y pc lo st σ d u Q := by
  subst hu'
  refine m_new fn hd hu hp ?_
  have := kk (sh_new σ ci 0) (d_new σ d) (by show σ.1 + 1 = _; rw [e1]; rfl) (by rw [Vw_new, eV, e1]; exact ov_new)
  rw [← e1] at this
  exact this
theorem z_newaI {x : Int32} {L : Nat} (hw : Cond.arrayClass .int ∈ y_ws Y) (hd : decode (y_cc Y) pc = .ok (.newarray .int, 2)) (hn : ¬ x < 0) (hN : x.toNatClampNeg = L) (hb : L ≤ 65536) (hu : u.1 + 1 ≤ (y_rm Y).cells ∧ u.2 + L ≤ (y_rm Y).slots) (hp : pc + 2 = pc') (hu' : (u.1 + 1, u.2 + L) = u') (e1 : σ.1 = a + n) (eV : Vw σ d = ov M a n B) (kk : ∀ σ' d', σ'.1 = a + (n + 1) → Vw σ' d' = ov M a (n + 1) (bn B n (fsh 14 L)) → mM G Y pc' lo (.ref (a + n) :: st) σ' d' u' Q) : mM G Y pc lo (.int x :: st) σ d u Q := by
  subst hu'
  refine m_newaI hw hd hn hN hb hu hp ?_
  have := kk (sh_new σ 14 L) (d_new σ d) (by show σ.1 + 1 = _; rw [e1]; rfl) (by rw [Vw_new, eV, e1]; exact ov_new)
  rw [← e1] at this
  exact this
theorem z_newaC {x : Int32} {L : Nat} (hw : Cond.arrayClass .char ∈ y_ws Y) (hd : decode (y_cc Y) pc = .ok (.newarray .char, 2)) (hn : ¬ x < 0) (hN : x.toNatClampNeg = L) (hb : L ≤ 65536) (hu : u.1 + 1 ≤ (y_rm Y).cells ∧ u.2 + L ≤ (y_rm Y).slots) (hp : pc + 2 = pc') (hu' : (u.1 + 1, u.2 + L) = u') (e1 : σ.1 = a + n) (eV : Vw σ d = ov M a n B) (kk : ∀ σ' d', σ'.1 = a + (n + 1) → Vw σ' d' = ov M a (n + 1) (bn B n (fsh 12 L)) → mM G Y pc' lo (.ref (a + n) :: st) σ' d' u' Q) : mM G Y pc lo (.int x :: st) σ d u Q := by
  subst hu'
  refine m_newaC hw hd hn hN hb hu hp ?_
  have := kk (sh_new σ 12 L) (d_new σ d) (by show σ.1 + 1 = _; rw [e1]; rfl) (by rw [Vw_new, eV, e1]; exact ov_new)
  rw [← e1] at this
  exact this
theorem z_newaQ {i : Nat} {x : Int32} {L : Nat} (hw : Cond.classLink Y.1.cls i "ScanRing$State" ∈ y_ws Y) (hd : decode (y_cc Y) pc = .ok (.anewarray i, 3)) (hn : ¬ x < 0) (hN : x.toNatClampNeg = L) (hb : L ≤ 65536) (hu : u.1 + 1 ≤ (y_rm Y).cells ∧ u.2 + L ≤ (y_rm Y).slots) (hp : pc + 3 = pc') (hu' : (u.1 + 1, u.2 + L) = u') (e1 : σ.1 = a + n) (eV : Vw σ d = ov M a n B) (kk : ∀ σ' d', σ'.1 = a + (n + 1) → Vw σ' d' = ov M a (n + 1) (bn B n (fsh 15 L)) → mM G Y pc' lo (.ref (a + n) :: st) σ' d' u' Q) : mM G Y pc lo (.int x :: st) σ d u Q := by
  subst hu'
  refine m_newaQ hw hd hn hN hb hu hp ?_
  have := kk (sh_new σ 15 L) (d_new σ d) (by show σ.1 + 1 = _; rw [e1]; rfl) (by rw [Vw_new, eV, e1]; exact ov_new)
  rw [← e1] at this
  exact this
theorem z_rf {i ci j q : Nat} {ds : String} {ty : FieldType} (m : Nat) (fa : FA Y i ci j ds true) (hin2 : Y.1.name = "<init>") (hds : parseFieldDescriptor ds = some ty) (hrf : ty.isReference = true) (hd : decode (y_cc Y) pc = .ok (.putfield i, 3)) (hj : (fco ci)[j]? = some 2) (hp : pc + 3 = pc') (e1 : σ.1 = a + n) (eV : Vw σ d = ov M a n B) (hm : m < n) (hc : (B m).1 = ci) (kk : ∀ σ', σ'.1 = a + n → Vw σ' d = ov M a n (bn B m (cv_rf (B m) j q)) → mM G Y pc' lo st σ' d u Q) : mM G Y pc lo (.ref q :: .ref (a + m) :: st) σ d u Q :=
  m_putRf fa hin2 hds hrf hd (z_lt e1 hm) (z_kd eV hm hc) hj hp (kk _ e1 (by rw [Vw_rf, z_at eV hm, eV]; exact ov_set hm))
theorem z_w {i ci j : Nat} {x : Int32} (m : Nat) (fa : FA Y i ci j "I" true) (hin2 : Y.1.name = "<init>") (hd : decode (y_cc Y) pc = .ok (.putfield i, 3)) (hj : (fco ci)[j]? = some 3) (ho : ∀ i' c, (fco ci)[i']? = some c → i' ≠ j → c < 3) (hp : pc + 3 = pc') (e1 : σ.1 = a + n) (eV : Vw σ d = ov M a n B) (hm : m < n) (hc : (B m).1 = ci) (kk : ∀ σ', σ'.1 = a + n → Vw σ' d = ov M a n (bn B m (cv_w (B m) x)) → mM G Y pc' lo st σ' d u Q) : mM G Y pc lo (.int x :: .ref (a + m) :: st) σ d u Q :=
  m_putW fa hin2 hd (z_lt e1 hm) (z_kd eV hm hc) hj ho hp (kk _ e1 (by rw [Vw_w, z_at eV hm, eV]; exact ov_set hm))
theorem z_putI {i ci j : Nat} {x : Int32} {ds : String} {ty : FieldType} (m : Nat) (fa : FA Y i ci j ds false) (hd : decode (y_cc Y) pc = .ok (.putfield i, 3)) (hds : parseFieldDescriptor ds = some ty) (hna : narrow ty (.int x) = .int x) (hfit : fits ty (.int x) = true) (hj : (fco ci)[j]? = some 0) (hp : pc + 3 = pc') (e1 : σ.1 = a + n) (eV : Vw σ d = ov M a n B) (hm : m < n) (hc : (B m).1 = ci) (kk : ∀ d', Vw σ d' = ov M a n (bn B m (cv_in (B m) j x)) → mM G Y pc' lo st σ d' u Q) : mM G Y pc lo (.int x :: .ref (a + m) :: st) σ d u Q :=
  m_putI fa hd hds hna hfit (z_lt e1 hm) (z_kd eV hm hc) hj hp (kk _ (by rw [Vw_i, z_at eV hm, eV]; exact ov_set hm))
theorem z_getR {i ci j q : Nat} {ds : String} {fin : Bool} (m : Nat) (fa : FA Y i ci j ds fin) (hd : decode (y_cc Y) pc = .ok (.getfield i, 3)) (hj : (fco ci)[j]? = some 2) (hp : pc + 3 = pc') (e1 : σ.1 = a + n) (eV : Vw σ d = ov M a n B) (hm : m < n) (hc : (B m).1 = ci) (hr : (B m).2.2.1 j = some q) (kk : mM G Y pc' lo (.ref q :: st) σ d u Q) : mM G Y pc lo (.ref (a + m) :: st) σ d u Q :=
  m_getR fa hd (z_lt e1 hm) (z_kd eV hm hc) hj (z_rr eV hm hr) hp kk
theorem z_iast {i x : Int32} {j L : Nat} (m : Nat) (hd : decode (y_cc Y) pc = .ok (.iastore, 1)) (hi : i = nI j) (hjL : j < L) (hL : L < 2 ^ 31) (hp : pc + 1 = pc') (e1 : σ.1 = a + n) (eV : Vw σ d = ov M a n B) (hm : m < n) (hc : (B m).1 = 14) (hl : (B m).2.1 = L) (kk : ∀ d', Vw σ d' = ov M a n (bn B m (cv_in (B m) j x)) → mM G Y pc' lo st σ d' u Q) : mM G Y pc lo (.int x :: .int i :: .ref (a + m) :: st) σ d u Q :=
  m_iastN hd (z_lt e1 hm) (z_kd eV hm hc) (z_ln eV hm hl) hi hjL hL hp (kk _ (by rw [Vw_i, z_at eV hm, eV]; exact ov_set hm))
theorem z_aast {i : Int32} {j L : Nat} (m r : Nat) (hd : decode (y_cc Y) pc = .ok (.aastore, 1)) (hi : i.toNatClampNeg = j) (hin : vp_in i L) (hp : pc + 1 = pc') (e1 : σ.1 = a + n) (eV : Vw σ d = ov M a n B) (hm : m < n) (hc : (B m).1 = 15) (hl : (B m).2.1 = L) (hq : r < n) (hcq : (B r).1 = 6) (kk : ∀ σ', σ'.1 = a + n → Vw σ' d = ov M a n (bn B m (cv_rf (B m) j (a + r))) → mM G Y pc' lo st σ' d u Q) : mM G Y pc lo (.ref (a + r) :: .int i :: .ref (a + m) :: st) σ d u Q := by
  subst hi
  exact m_aast (ci := 0) hd (z_lt e1 hm) (z_kd eV hm hc) (by rw [z_ln eV hm hl]; exact hin) (z_lt e1 hq) (z_kd eV hq hcq) hp (kk _ e1 (by rw [Vw_rf, z_at eV hm, eV]; exact ov_set hm))
theorem z_alen {v : Int32} {L : Nat} (m : Nat) (hd : decode (y_cc Y) pc = .ok (.arraylength, 1)) (hv : Int32.ofNat L = v) (hp : pc + 1 = pc') (e1 : σ.1 = a + n) (eV : Vw σ d = ov M a n B) (hm : m < n) (hc : (B m).1 = 15) (hl : (B m).2.1 = L) (kk : mM G Y pc' lo (.int v :: st) σ d u Q) : mM G Y pc lo (.ref (a + m) :: st) σ d u Q :=
  m_alenv hd (z_lt e1 hm) (z_kd eV hm hc) (by decide) (by decide) (z_ln eV hm hl) hv hp kk
/-- a table in a memory that is being made -/
def isZ (σ : Sh) (t W L : Nat) : Prop := t + 1 < σ.1 ∧ σ.2.1 t = 7 ∧ σ.2.2.2.1 t 1 = some (t + 1) ∧ σ.2.2.2.2 t = nI W ∧ σ.2.1 (t + 1) = 14 ∧ σ.2.2.1 (t + 1) = L
theorem Z_lt0 {t W L : Nat} (h : isZ σ t W L) : t < σ.1 := Nat.lt_of_succ_lt h.1
theorem Z_k0 {t W L : Nat} (h : isZ σ t W L) : σ.2.1 t = 7 := h.2.1
theorem Z_r0_1 {t W L : Nat} (h : isZ σ t W L) : σ.2.2.2.1 t 1 = some (t + 1) := h.2.2.1
theorem Z_w0 {t W L : Nat} (h : isZ σ t W L) : σ.2.2.2.2 t = nI W := h.2.2.2.1
theorem Z_lt1 {t W L : Nat} (h : isZ σ t W L) : t + 1 < σ.1 := h.1
theorem Z_k1 {t W L : Nat} (h : isZ σ t W L) : σ.2.1 (t + 1) = 14 := h.2.2.2.2.1
theorem Z_l1 {t W L : Nat} (h : isZ σ t W L) : σ.2.2.1 (t + 1) = L := h.2.2.2.2.2
set_option maxHeartbeats 4000000 in
set_option maxRecDepth 100000 in
theorem z_put0 {t W L : Nat} {r c x : Int32} (hT : isZ σ t W L) (hL : L < 2 ^ 31) (hQ : Q none σ (tpt d t W L r c x)) : mC G mX7_put [.ref t, .int r, .int c, .int x] σ d Q := by
  refine mC_of (by decide +kernel) ⟨_, rfl⟩ (Nat.le_of_ble_eq_true rfl) ?_
  show mM G mX7_put 0 [some (.ref t), some (.int r), some (.int c), some (.int x), none] [] σ d (0, 0) Q
  refine m_iload_n (pc' := 1) dX7_put_0 rfl rfl ?_
  refine m_aload_n (pc' := 2) dX7_put_1 rfl rfl ?_
  refine m_getWv (pc' := 5) (x := nI W) fa_X7_put_13 dX7_put_2 (Z_lt0 hT) (Z_k0 hT) rfl (Z_w0 hT) rfl ?_
  refine m_imul (pc' := 6) dX7_put_5 rfl ?_
  refine m_iload_n (pc' := 7) dX7_put_6 rfl rfl ?_
  refine m_iadd (pc' := 8) dX7_put_7 rfl ?_
  refine m_istore (pc' := 10) dX7_put_8 (by decide) rfl rfl ?_
  refine m_iload (pc' := 12) dX7_put_10 rfl rfl ?_
  refine m_if_lt (tgt := 33) (pc' := 15) dX7_put_12 (by decide) rfl (fun h12 => ?_) (fun h12 => ?_)
  · skip
    refine m_vret dX7_put_33 rfl ⟨by decide, by decide⟩ ?_
    exact q_d hQ (if_neg (fun h => Int32.not_lt.mpr h.1 h12)).symm
  · skip
    refine m_iload (pc' := 17) dX7_put_15 rfl rfl ?_
    refine m_aload_n (pc' := 18) dX7_put_17 rfl rfl ?_
    refine m_getR (pc' := 21) fa_X7_put_19 dX7_put_18 (Z_lt0 hT) (Z_k0 hT) rfl (Z_r0_1 hT) rfl ?_
    refine m_alenv (pc' := 22) (v := nI L) dX7_put_21 (Z_lt1 hT) (Z_k1 hT) (by decide) (by decide) (Z_l1 hT) rfl rfl ?_
    refine m_icmp_ge (tgt := 33) (pc' := 25) dX7_put_22 (by decide) rfl (fun h22 => ?_) (fun h22 => ?_)
    · skip
      refine m_vret dX7_put_33 rfl ⟨by decide, by decide⟩ ?_
      exact q_d hQ (if_neg (fun h => Int32.not_lt.mpr h22 h.2)).symm
    · skip
      refine m_aload_n (pc' := 26) dX7_put_25 rfl rfl ?_
      refine m_getR (pc' := 29) fa_X7_put_19 dX7_put_26 (Z_lt0 hT) (Z_k0 hT) rfl (Z_r0_1 hT) rfl ?_
      refine m_iload (pc' := 31) dX7_put_29 rfl rfl ?_
      refine m_iload_n (pc' := 32) dX7_put_31 rfl rfl ?_
      refine m_iast (pc' := 33) dX7_put_32 (Z_lt1 hT) (Z_k1 hT) (inL (Z_l1 hT) hL h12 h22) rfl ?_
      refine m_vret dX7_put_33 rfl ⟨by decide, by decide⟩ ?_
      exact q_d hQ (if_pos ⟨Int32.not_lt.mp h12, Int32.not_le.mp h22⟩).symm
theorem z_put {x : Int32} {W L r c k : Nat} (m : Nat) (hk : r * W + c = k) (hkL : k < L) (hL : L < 2 ^ 31) (e1 : σ.1 = a + n) (eV : Vw σ d = ov M a n B) (hm : m + 1 < n) (h1 : (B m).1 = 7) (h2 : (B m).2.2.1 1 = some (a + m + 1)) (h3 : (B m).2.2.2.1 = nI W) (h4 : (B (m + 1)).1 = 14) (h5 : (B (m + 1)).2.1 = L) (hQ : ∀ d', Vw σ d' = ov M a n (bn B (m + 1) (cv_in (B (m + 1)) k x)) → Q none σ d') : mC G mX7_put [.ref (a + m), .int (nI r), .int (nI c), .int x] σ d Q := by
  refine z_put0 (t := a + m) (W := W) (L := L) ⟨z_lt (m := m + 1) e1 hm, z_kd eV (by omega) h1, z_rr eV (by omega) h2, z_ww eV (by omega) h3, z_kd (m := m + 1) eV hm h4, z_ln (m := m + 1) eV hm h5⟩ hL ?_
  rw [tpt_N hk hkL hL]
  refine hQ _ ?_
  rw [show a + m + 1 = a + (m + 1) from rfl, Vw_i, z_at (m := m + 1) eV hm, eV]
  exact ov_set hm
end INIT
