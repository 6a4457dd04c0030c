/-! ROWS: one an instruction, over mM. hd: the decode row; hp: the next pc; k: what is behind it. -/
section ROWS
variable {G : GP} {Y Z : MD} {pc pc' tgt : Nat} {lo lo' : List (Option Value)} {st : List Value} {σ : Sh} {d : Dt} {u : Nat × Nat} {Q : Option Value → Sh → Dt → Prop}
theorem m_iconst {n : Int} {v : Int32} (hd : decode (y_cc Y) pc = .ok (.iconst n, 1)) (hv : Int32.ofInt n = v) (hp : pc + 1 = pc') (k : mM G Y pc' lo (.int v :: st) σ d u Q) : mM G Y pc lo (st) σ d u Q := by
  subst hp
  intro p e s m args below meth c C d0 hd0 H locs ls str hH hL hlo hst
  exact lv_iconst C.1 C.2.1 hd hv (k p e s m args below meth c C d0 hd0 H locs ls _ hH hL hlo ⟨_, _, rfl, rfl, hst⟩)
theorem m_bipush {n : Int} {v : Int32} (hd : decode (y_cc Y) pc = .ok (.bipush n, 2)) (hv : (Int8.ofInt n).toInt32 = v) (hp : pc + 2 = pc') (k : mM G Y pc' lo (.int v :: st) σ d u Q) : mM G Y pc lo (st) σ d u Q := by
  subst hp
  intro p e s m args below meth c C d0 hd0 H locs ls str hH hL hlo hst
  exact lv_bipush C.1 C.2.1 hd hv (k p e s m args below meth c C d0 hd0 H locs ls _ hH hL hlo ⟨_, _, rfl, rfl, hst⟩)
theorem m_sipush {n : Int} {v : Int32} (hd : decode (y_cc Y) pc = .ok (.sipush n, 3)) (hv : (Int16.ofInt n).toInt32 = v) (hp : pc + 3 = pc') (k : mM G Y pc' lo (.int v :: st) σ d u Q) : mM G Y pc lo (st) σ d u Q := by
  subst hp
  intro p e s m args below meth c C d0 hd0 H locs ls str hH hL hlo hst
  exact lv_sipush C.1 C.2.1 hd hv (k p e s m args below meth c C d0 hd0 H locs ls _ hH hL hlo ⟨_, _, rfl, rfl, hst⟩)
theorem m_ldc {i : Nat} {v : Int32} (hd : decode (y_cc Y) pc = .ok (.ldc i, 2)) (hc : Cond.constant Y.1.cls i v ∈ y_ws Y) (hp : pc + 2 = pc') (k : mM G Y pc' lo (.int v :: st) σ d u Q) : mM G Y pc lo (st) σ d u Q := by
  subst hp
  intro p e s m args below meth c C d0 hd0 H locs ls str hH hL hlo hst
  exact lv_ldc C.1 C.2.1 C.2.2.2.2.1 (dr_words C.2.2.2.2.2.1 d0 _ hc) hd (k p e s m args below meth c C d0 hd0 H locs ls _ hH hL hlo ⟨_, _, rfl, rfl, hst⟩)
theorem m_ldcw {i : Nat} {v : Int32} (hd : decode (y_cc Y) pc = .ok (.ldc_w i, 3)) (hc : Cond.constant Y.1.cls i v ∈ y_ws Y) (hp : pc + 3 = pc') (k : mM G Y pc' lo (.int v :: st) σ d u Q) : mM G Y pc lo (st) σ d u Q := by
  subst hp
  intro p e s m args below meth c C d0 hd0 H locs ls str hH hL hlo hst
  exact lv_ldcw C.1 C.2.1 C.2.2.2.2.1 (dr_words C.2.2.2.2.2.1 d0 _ hc) hd (k p e s m args below meth c C d0 hd0 H locs ls _ hH hL hlo ⟨_, _, rfl, rfl, hst⟩)
theorem m_ldcf {i : Nat} {v : UInt32} (hd : decode (y_cc Y) pc = .ok (.ldc i, 2)) (hc : Cond.constantFloat Y.1.cls i v ∈ y_ws Y) (hp : pc + 2 = pc') (k : mM G Y pc' lo (.float v :: st) σ d u Q) : mM G Y pc lo (st) σ d u Q := by
  subst hp
  intro p e s m args below meth c C d0 hd0 H locs ls str hH hL hlo hst
  exact lv_ldcf C.1 C.2.1 C.2.2.2.2.1 (dr_words C.2.2.2.2.2.1 d0 _ hc) hd (k p e s m args below meth c C d0 hd0 H locs ls _ hH hL hlo ⟨_, _, rfl, ⟨_, rfl, fR_rfl _⟩, hst⟩)
theorem m_fconst0 (hd : decode (y_cc Y) pc = .ok (.fconst 0, 1)) (hp : pc + 1 = pc') (k : mM G Y pc' lo (.float FP.fconst0 :: st) σ d u Q) : mM G Y pc lo (st) σ d u Q := by
  subst hp
  intro p e s m args below meth c C d0 hd0 H locs ls str hH hL hlo hst
  exact lv_fconst0 C.1 C.2.1 hd (k p e s m args below meth c C d0 hd0 H locs ls _ hH hL hlo ⟨_, _, rfl, ⟨_, rfl, fR_rfl _⟩, hst⟩)
theorem m_null (hd : decode (y_cc Y) pc = .ok (.aconst_null, 1)) (hp : pc + 1 = pc') (k : mM G Y pc' lo (.null :: st) σ d u Q) : mM G Y pc lo (st) σ d u Q := by
  subst hp
  intro p e s m args below meth c C d0 hd0 H locs ls str hH hL hlo hst
  exact lv_null C.1 C.2.1 hd (k p e s m args below meth c C d0 hd0 H locs ls _ hH hL hlo ⟨_, _, rfl, rfl, hst⟩)
theorem m_iload {i : Nat} {x : Int32} (hd : decode (y_cc Y) pc = .ok (.iload i, 2)) (hl : lo[i]? = some (some (.int x))) (hp : pc + 2 = pc') (k : mM G Y pc' lo (.int x :: st) σ d u Q) : mM G Y pc lo (st) σ d u Q := by
  subst hp
  intro p e s m args below meth c C d0 hd0 H locs ls str hH hL hlo hst
  obtain ⟨r, hr, hv⟩ := mL_at hlo hl
  obtain rfl := vR_int hv
  exact lv_iload C.1 C.2.1 hd hr (k p e s m args below meth c C d0 hd0 H locs ls _ hH hL hlo ⟨_, _, rfl, rfl, hst⟩)
theorem m_iload_n {i : Fin 4} {x : Int32} (hd : decode (y_cc Y) pc = .ok (.iload_n i, 1)) (hl : lo[i.val]? = some (some (.int x))) (hp : pc + 1 = pc') (k : mM G Y pc' lo (.int x :: st) σ d u Q) : mM G Y pc lo (st) σ d u Q := by
  subst hp
  intro p e s m args below meth c C d0 hd0 H locs ls str hH hL hlo hst
  obtain ⟨r, hr, hv⟩ := mL_at hlo hl
  obtain rfl := vR_int hv
  exact lv_iload_n C.1 C.2.1 hd rfl hr (k p e s m args below meth c C d0 hd0 H locs ls _ hH hL hlo ⟨_, _, rfl, rfl, hst⟩)
theorem m_fload {i : Nat} {x : UInt32} (hd : decode (y_cc Y) pc = .ok (.fload i, 2)) (hl : lo[i]? = some (some (.float x))) (hp : pc + 2 = pc') (k : mM G Y pc' lo (.float x :: st) σ d u Q) : mM G Y pc lo (st) σ d u Q := by
  subst hp
  intro p e s m args below meth c C d0 hd0 H locs ls str hH hL hlo hst
  obtain ⟨r, hr, hv⟩ := mL_at hlo hl
  obtain ⟨y, rfl, hy⟩ := vR_float hv
  exact lv_fload C.1 C.2.1 hd hr (k p e s m args below meth c C d0 hd0 H locs ls _ hH hL hlo ⟨_, _, rfl, ⟨_, rfl, hy⟩, hst⟩)
theorem m_fload_n {i : Fin 4} {x : UInt32} (hd : decode (y_cc Y) pc = .ok (.fload_n i, 1)) (hl : lo[i.val]? = some (some (.float x))) (hp : pc + 1 = pc') (k : mM G Y pc' lo (.float x :: st) σ d u Q) : mM G Y pc lo (st) σ d u Q := by
  subst hp
  intro p e s m args below meth c C d0 hd0 H locs ls str hH hL hlo hst
  obtain ⟨r, hr, hv⟩ := mL_at hlo hl
  obtain ⟨y, rfl, hy⟩ := vR_float hv
  exact lv_fload_n C.1 C.2.1 hd rfl hr (k p e s m args below meth c C d0 hd0 H locs ls _ hH hL hlo ⟨_, _, rfl, ⟨_, rfl, hy⟩, hst⟩)
theorem m_aload {i : Nat} {x : Nat} (hd : decode (y_cc Y) pc = .ok (.aload i, 2)) (hl : lo[i]? = some (some (.ref x))) (hp : pc + 2 = pc') (k : mM G Y pc' lo (.ref x :: st) σ d u Q) : mM G Y pc lo (st) σ d u Q := by
  subst hp
  intro p e s m args below meth c C d0 hd0 H locs ls str hH hL hlo hst
  obtain ⟨r, hr, hv⟩ := mL_at hlo hl
  obtain rfl := vR_ref hv
  exact lv_aload C.1 C.2.1 hd hr (k p e s m args below meth c C d0 hd0 H locs ls _ hH hL hlo ⟨_, _, rfl, rfl, hst⟩)
theorem m_aload_n {i : Fin 4} {x : Nat} (hd : decode (y_cc Y) pc = .ok (.aload_n i, 1)) (hl : lo[i.val]? = some (some (.ref x))) (hp : pc + 1 = pc') (k : mM G Y pc' lo (.ref x :: st) σ d u Q) : mM G Y pc lo (st) σ d u Q := by
  subst hp
  intro p e s m args below meth c C d0 hd0 H locs ls str hH hL hlo hst
  obtain ⟨r, hr, hv⟩ := mL_at hlo hl
  obtain rfl := vR_ref hv
  exact lv_aload_n C.1 C.2.1 hd rfl hr (k p e s m args below meth c C d0 hd0 H locs ls _ hH hL hlo ⟨_, _, rfl, rfl, hst⟩)
theorem m_istore {i : Nat} {x : Int32} (hd : decode (y_cc Y) pc = .ok (.istore i, 2)) (hi : i < y_nl Y) (hlo' : lo.set i (some (.int x)) = lo') (hp : pc + 2 = pc') (k : mM G Y pc' lo' st σ d u Q) : mM G Y pc lo (.int x :: st) σ d u Q := by
  subst hp
  subst hlo'
  intro p e s m args below meth c C d0 hd0 H locs ls str hH hL hlo hst
  obtain ⟨r, t, rfl, hv, hst⟩ := hst
  obtain rfl := vR_int hv
  obtain ⟨lv, h1, h2, h3⟩ := hlo
  exact lv_istore C.1 C.2.1 hd h1 hi rfl (fun ls' h4 => (k p e s m args below meth c C d0 hd0 H locs ls' _ hH hL (mL_store h4 h2 h3 rfl) hst))
theorem m_istore_n {i : Fin 4} {x : Int32} (hd : decode (y_cc Y) pc = .ok (.istore_n i, 1)) (hi : i.val < y_nl Y) (hlo' : lo.set i.val (some (.int x)) = lo') (hp : pc + 1 = pc') (k : mM G Y pc' lo' st σ d u Q) : mM G Y pc lo (.int x :: st) σ d u Q := by
  subst hp
  subst hlo'
  intro p e s m args below meth c C d0 hd0 H locs ls str hH hL hlo hst
  obtain ⟨r, t, rfl, hv, hst⟩ := hst
  obtain rfl := vR_int hv
  obtain ⟨lv, h1, h2, h3⟩ := hlo
  exact lv_istore_n C.1 C.2.1 hd rfl h1 hi rfl (fun ls' h4 => (k p e s m args below meth c C d0 hd0 H locs ls' _ hH hL (mL_store h4 h2 h3 rfl) hst))
theorem m_fstore {i : Nat} {x : UInt32} (hd : decode (y_cc Y) pc = .ok (.fstore i, 2)) (hi : i < y_nl Y) (hlo' : lo.set i (some (.float x)) = lo') (hp : pc + 2 = pc') (k : mM G Y pc' lo' st σ d u Q) : mM G Y pc lo (.float x :: st) σ d u Q := by
  subst hp
  subst hlo'
  intro p e s m args below meth c C d0 hd0 H locs ls str hH hL hlo hst
  obtain ⟨r, t, rfl, hv, hst⟩ := hst
  obtain ⟨y, rfl, hy⟩ := vR_float hv
  obtain ⟨lv, h1, h2, h3⟩ := hlo
  exact lv_fstore C.1 C.2.1 hd h1 hi rfl (fun ls' h4 => (k p e s m args below meth c C d0 hd0 H locs ls' _ hH hL (mL_store h4 h2 h3 ⟨_, rfl, hy⟩) hst))
theorem m_fstore_n {i : Fin 4} {x : UInt32} (hd : decode (y_cc Y) pc = .ok (.fstore_n i, 1)) (hi : i.val < y_nl Y) (hlo' : lo.set i.val (some (.float x)) = lo') (hp : pc + 1 = pc') (k : mM G Y pc' lo' st σ d u Q) : mM G Y pc lo (.float x :: st) σ d u Q := by
  subst hp
  subst hlo'
  intro p e s m args below meth c C d0 hd0 H locs ls str hH hL hlo hst
  obtain ⟨r, t, rfl, hv, hst⟩ := hst
  obtain ⟨y, rfl, hy⟩ := vR_float hv
  obtain ⟨lv, h1, h2, h3⟩ := hlo
  exact lv_fstore_n C.1 C.2.1 hd rfl h1 hi rfl (fun ls' h4 => (k p e s m args below meth c C d0 hd0 H locs ls' _ hH hL (mL_store h4 h2 h3 ⟨_, rfl, hy⟩) hst))
theorem m_astore {i : Nat} {x : Nat} (hd : decode (y_cc Y) pc = .ok (.astore i, 2)) (hi : i < y_nl Y) (hlo' : lo.set i (some (.ref x)) = lo') (hp : pc + 2 = pc') (k : mM G Y pc' lo' st σ d u Q) : mM G Y pc lo (.ref x :: st) σ d u Q := by
  subst hp
  subst hlo'
  intro p e s m args below meth c C d0 hd0 H locs ls str hH hL hlo hst
  obtain ⟨r, t, rfl, hv, hst⟩ := hst
  obtain rfl := vR_ref hv
  obtain ⟨lv, h1, h2, h3⟩ := hlo
  exact lv_astore C.1 C.2.1 hd h1 hi rfl (fun ls' h4 => (k p e s m args below meth c C d0 hd0 H locs ls' _ hH hL (mL_store h4 h2 h3 rfl) hst))
theorem m_astore_n {i : Fin 4} {x : Nat} (hd : decode (y_cc Y) pc = .ok (.astore_n i, 1)) (hi : i.val < y_nl Y) (hlo' : lo.set i.val (some (.ref x)) = lo') (hp : pc + 1 = pc') (k : mM G Y pc' lo' st σ d u Q) : mM G Y pc lo (.ref x :: st) σ d u Q := by
  subst hp
  subst hlo'
  intro p e s m args below meth c C d0 hd0 H locs ls str hH hL hlo hst
  obtain ⟨r, t, rfl, hv, hst⟩ := hst
  obtain rfl := vR_ref hv
  obtain ⟨lv, h1, h2, h3⟩ := hlo
  exact lv_astore_n C.1 C.2.1 hd rfl h1 hi rfl (fun ls' h4 => (k p e s m args below meth c C d0 hd0 H locs ls' _ hH hL (mL_store h4 h2 h3 rfl) hst))
theorem m_iinc {i : Nat} {n : Int} {x v : Int32} (hd : decode (y_cc Y) pc = .ok (.iinc i n, 3)) (hl : lo[i]? = some (some (.int x))) (hi : i < y_nl Y) (hv : x + Int32.ofInt n = v) (hlo' : lo.set i (some (.int v)) = lo') (hp : pc + 3 = pc') (k : mM G Y pc' lo' st σ d u Q) : mM G Y pc lo st σ d u Q := by
  subst hp
  subst hlo'
  subst hv
  intro p e s m args below meth c C d0 hd0 H locs ls str hH hL hlo hst
  obtain ⟨lv, h1, h2, h3⟩ := hlo
  obtain ⟨r, h4, h5⟩ := h3 i _ hl (fun h => absurd h vct_1)
  obtain rfl := vR_int h5
  obtain ⟨j, hj⟩ := List.getElem?_of_mem h4
  exact lv_iinc C.1 C.2.1 hd h1 hj rfl hi rfl (fun ls' h6 => (k p e s m args below meth c C d0 hd0 H locs ls' _ hH hL (mL_store h6 h2 h3 rfl) hst))
theorem m_iadd {x y : Int32} (hd : decode (y_cc Y) pc = .ok (.iadd, 1)) (hp : pc + 1 = pc') (k : mM G Y pc' lo (.int (x + y) :: st) σ d u Q) : mM G Y pc lo (.int y :: .int x :: st) σ d u Q := by
  subst hp
  intro p e s m args below meth c C d0 hd0 H locs ls str hH hL hlo hst
  obtain ⟨_, _, rfl, hy, _, _, rfl, hx, hst⟩ := hst
  obtain rfl := vR_int hx
  obtain rfl := vR_int hy
  exact lv_iadd C.1 C.2.1 hd (k p e s m args below meth c C d0 hd0 H locs ls _ hH hL hlo ⟨_, _, rfl, rfl, hst⟩)
theorem m_isub {x y : Int32} (hd : decode (y_cc Y) pc = .ok (.isub, 1)) (hp : pc + 1 = pc') (k : mM G Y pc' lo (.int (x - y) :: st) σ d u Q) : mM G Y pc lo (.int y :: .int x :: st) σ d u Q := by
  subst hp
  intro p e s m args below meth c C d0 hd0 H locs ls str hH hL hlo hst
  obtain ⟨_, _, rfl, hy, _, _, rfl, hx, hst⟩ := hst
  obtain rfl := vR_int hx
  obtain rfl := vR_int hy
  exact lv_isub C.1 C.2.1 hd (k p e s m args below meth c C d0 hd0 H locs ls _ hH hL hlo ⟨_, _, rfl, rfl, hst⟩)
theorem m_imul {x y : Int32} (hd : decode (y_cc Y) pc = .ok (.imul, 1)) (hp : pc + 1 = pc') (k : mM G Y pc' lo (.int (x * y) :: st) σ d u Q) : mM G Y pc lo (.int y :: .int x :: st) σ d u Q := by
  subst hp
  intro p e s m args below meth c C d0 hd0 H locs ls str hH hL hlo hst
  obtain ⟨_, _, rfl, hy, _, _, rfl, hx, hst⟩ := hst
  obtain rfl := vR_int hx
  obtain rfl := vR_int hy
  exact lv_imul C.1 C.2.1 hd (k p e s m args below meth c C d0 hd0 H locs ls _ hH hL hlo ⟨_, _, rfl, rfl, hst⟩)
theorem m_iand {x y : Int32} (hd : decode (y_cc Y) pc = .ok (.iand, 1)) (hp : pc + 1 = pc') (k : mM G Y pc' lo (.int (x &&& y) :: st) σ d u Q) : mM G Y pc lo (.int y :: .int x :: st) σ d u Q := by
  subst hp
  intro p e s m args below meth c C d0 hd0 H locs ls str hH hL hlo hst
  obtain ⟨_, _, rfl, hy, _, _, rfl, hx, hst⟩ := hst
  obtain rfl := vR_int hx
  obtain rfl := vR_int hy
  exact lv_iand C.1 C.2.1 hd (k p e s m args below meth c C d0 hd0 H locs ls _ hH hL hlo ⟨_, _, rfl, rfl, hst⟩)
theorem m_ixor {x y : Int32} (hd : decode (y_cc Y) pc = .ok (.ixor, 1)) (hp : pc + 1 = pc') (k : mM G Y pc' lo (.int (x ^^^ y) :: st) σ d u Q) : mM G Y pc lo (.int y :: .int x :: st) σ d u Q := by
  subst hp
  intro p e s m args below meth c C d0 hd0 H locs ls str hH hL hlo hst
  obtain ⟨_, _, rfl, hy, _, _, rfl, hx, hst⟩ := hst
  obtain rfl := vR_int hx
  obtain rfl := vR_int hy
  exact lv_ixor C.1 C.2.1 hd (k p e s m args below meth c C d0 hd0 H locs ls _ hH hL hlo ⟨_, _, rfl, rfl, hst⟩)
theorem m_idiv {x y : Int32} (hd : decode (y_cc Y) pc = .ok (.idiv, 1)) (hne : ¬ y = 0) (hp : pc + 1 = pc') (k : mM G Y pc' lo (.int (x / y) :: st) σ d u Q) : mM G Y pc lo (.int y :: .int x :: st) σ d u Q := by
  subst hp
  intro p e s m args below meth c C d0 hd0 H locs ls str hH hL hlo hst
  obtain ⟨_, _, rfl, hy, _, _, rfl, hx, hst⟩ := hst
  obtain rfl := vR_int hx
  obtain rfl := vR_int hy
  exact lv_idiv C.1 C.2.1 hd hne (k p e s m args below meth c C d0 hd0 H locs ls _ hH hL hlo ⟨_, _, rfl, rfl, hst⟩)
theorem m_irem {x y : Int32} (hd : decode (y_cc Y) pc = .ok (.irem, 1)) (hne : ¬ y = 0) (hp : pc + 1 = pc') (k : mM G Y pc' lo (.int (x - x / y * y) :: st) σ d u Q) : mM G Y pc lo (.int y :: .int x :: st) σ d u Q := by
  subst hp
  intro p e s m args below meth c C d0 hd0 H locs ls str hH hL hlo hst
  obtain ⟨_, _, rfl, hy, _, _, rfl, hx, hst⟩ := hst
  obtain rfl := vR_int hx
  obtain rfl := vR_int hy
  exact lv_irem C.1 C.2.1 hd hne (k p e s m args below meth c C d0 hd0 H locs ls _ hH hL hlo ⟨_, _, rfl, rfl, hst⟩)
theorem m_ineg {x : Int32} (hd : decode (y_cc Y) pc = .ok (.ineg, 1)) (hp : pc + 1 = pc') (k : mM G Y pc' lo (.int (-x) :: st) σ d u Q) : mM G Y pc lo (.int x :: st) σ d u Q := by
  subst hp
  intro p e s m args below meth c C d0 hd0 H locs ls str hH hL hlo hst
  obtain ⟨_, _, rfl, hx, hst⟩ := hst
  obtain rfl := vR_int hx
  exact lv_ineg C.1 C.2.1 hd (k p e s m args below meth c C d0 hd0 H locs ls _ hH hL hlo ⟨_, _, rfl, rfl, hst⟩)
theorem m_i2c {x : Int32} (hd : decode (y_cc Y) pc = .ok (.i2c, 1)) (hp : pc + 1 = pc') (k : mM G Y pc' lo (.int (x.toUInt32 % 65536).toInt32 :: st) σ d u Q) : mM G Y pc lo (.int x :: st) σ d u Q := by
  subst hp
  intro p e s m args below meth c C d0 hd0 H locs ls str hH hL hlo hst
  obtain ⟨_, _, rfl, hx, hst⟩ := hst
  obtain rfl := vR_int hx
  exact lv_i2c C.1 C.2.1 hd rfl (k p e s m args below meth c C d0 hd0 H locs ls _ hH hL hlo ⟨_, _, rfl, rfl, hst⟩)
theorem m_i2f {x : Int32} (hd : decode (y_cc Y) pc = .ok (.i2f, 1)) (hp : pc + 1 = pc') (k : mM G Y pc' lo (.float (FP.i2f x) :: st) σ d u Q) : mM G Y pc lo (.int x :: st) σ d u Q := by
  subst hp
  intro p e s m args below meth c C d0 hd0 H locs ls str hH hL hlo hst
  obtain ⟨_, _, rfl, hx, hst⟩ := hst
  obtain rfl := vR_int hx
  exact lv_i2f C.1 C.2.1 hd (k p e s m args below meth c C d0 hd0 H locs ls _ hH hL hlo ⟨_, _, rfl, ⟨_, rfl, fR_rfl _⟩, hst⟩)
theorem m_f2i {x : UInt32} (hd : decode (y_cc Y) pc = .ok (.f2i, 1)) (hp : pc + 1 = pc') (k : mM G Y pc' lo (.int (FP.f2i x) :: st) σ d u Q) : mM G Y pc lo (.float x :: st) σ d u Q := by
  subst hp
  intro p e s m args below meth c C d0 hd0 H locs ls str hH hL hlo hst
  obtain ⟨_, _, rfl, hx, hst⟩ := hst
  obtain ⟨y, rfl, hy⟩ := vR_float hx
  exact lv_f2i C.1 C.2.1 hd (k p e s m args below meth c C d0 hd0 H locs ls _ hH hL hlo ⟨_, _, rfl, (congrArg Value.int (fR_f2i hy)), hst⟩)
theorem m_fcmp {x y : UInt32} {op : CmpOp} (hd : decode (y_cc Y) pc = .ok (.fcmp op, 1)) (hp : pc + 1 = pc') (k : mM G Y pc' lo (.int (Op.cmpValue (FP.fcmp x y) op) :: st) σ d u Q) : mM G Y pc lo (.float y :: .float x :: st) σ d u Q := by
  subst hp
  intro p e s m args below meth c C d0 hd0 H locs ls str hH hL hlo hst
  obtain ⟨_, _, rfl, hy, _, _, rfl, hx, hst⟩ := hst
  obtain ⟨x', rfl, hx'⟩ := vR_float hx
  obtain ⟨y', rfl, hy'⟩ := vR_float hy
  exact lv_fcmp C.1 C.2.1 hd (k p e s m args below meth c C d0 hd0 H locs ls _ hH hL hlo ⟨_, _, rfl, (congrArg (fun z => Value.int (Op.cmpValue z op)) (fR_cmp hx' hy')), hst⟩)
theorem m_fadd {x y : UInt32} (hd : decode (y_cc Y) pc = .ok (.fadd, 1)) (hp : pc + 1 = pc') (k : mM G Y pc' lo (.float (FP.fadd x y) :: st) σ d u Q) : mM G Y pc lo (.float y :: .float x :: st) σ d u Q := by
  subst hp
  intro p e s m args below meth c C d0 hd0 H locs ls str hH hL hlo hst
  obtain ⟨_, _, rfl, hy, _, _, rfl, hx, hst⟩ := hst
  obtain ⟨x', rfl, hx'⟩ := vR_float hx
  obtain ⟨y', rfl, hy'⟩ := vR_float hy
  refine lv_fadd_any hd0 lw_bits C.1 C.2.1 hd (fun r d1 hal hd1 => ?_)
  exact k p e s m args below meth c C d1 hd1 H locs ls _ hH hL hlo ⟨_, _, rfl, ⟨_, rfl, fR_trans (fR_of_alike hal) (fR_add hx' hy')⟩, hst⟩
theorem m_fsub {x y : UInt32} (hd : decode (y_cc Y) pc = .ok (.fsub, 1)) (hp : pc + 1 = pc') (k : mM G Y pc' lo (.float (FP.fsub x y) :: st) σ d u Q) : mM G Y pc lo (.float y :: .float x :: st) σ d u Q := by
  subst hp
  intro p e s m args below meth c C d0 hd0 H locs ls str hH hL hlo hst
  obtain ⟨_, _, rfl, hy, _, _, rfl, hx, hst⟩ := hst
  obtain ⟨x', rfl, hx'⟩ := vR_float hx
  obtain ⟨y', rfl, hy'⟩ := vR_float hy
  refine lv_fsub_any hd0 lw_bits C.1 C.2.1 hd (fun r d1 hal hd1 => ?_)
  exact k p e s m args below meth c C d1 hd1 H locs ls _ hH hL hlo ⟨_, _, rfl, ⟨_, rfl, fR_trans (fR_of_alike hal) (fR_sub hx' hy')⟩, hst⟩
theorem m_fmul {x y : UInt32} (hd : decode (y_cc Y) pc = .ok (.fmul, 1)) (hp : pc + 1 = pc') (k : mM G Y pc' lo (.float (FP.fmul x y) :: st) σ d u Q) : mM G Y pc lo (.float y :: .float x :: st) σ d u Q := by
  subst hp
  intro p e s m args below meth c C d0 hd0 H locs ls str hH hL hlo hst
  obtain ⟨_, _, rfl, hy, _, _, rfl, hx, hst⟩ := hst
  obtain ⟨x', rfl, hx'⟩ := vR_float hx
  obtain ⟨y', rfl, hy'⟩ := vR_float hy
  refine lv_fmul_any hd0 lw_bits C.1 C.2.1 hd (fun r d1 hal hd1 => ?_)
  exact k p e s m args below meth c C d1 hd1 H locs ls _ hH hL hlo ⟨_, _, rfl, ⟨_, rfl, fR_trans (fR_of_alike hal) (fR_mul hx' hy')⟩, hst⟩
theorem m_fdiv {x y : UInt32} (hd : decode (y_cc Y) pc = .ok (.fdiv, 1)) (hp : pc + 1 = pc') (k : mM G Y pc' lo (.float (FP.fdiv x y) :: st) σ d u Q) : mM G Y pc lo (.float y :: .float x :: st) σ d u Q := by
  subst hp
  intro p e s m args below meth c C d0 hd0 H locs ls str hH hL hlo hst
  obtain ⟨_, _, rfl, hy, _, _, rfl, hx, hst⟩ := hst
  obtain ⟨x', rfl, hx'⟩ := vR_float hx
  obtain ⟨y', rfl, hy'⟩ := vR_float hy
  refine lv_fdiv_any hd0 lw_bits C.1 C.2.1 hd (fun r d1 hal hd1 => ?_)
  exact k p e s m args below meth c C d1 hd1 H locs ls _ hH hL hlo ⟨_, _, rfl, ⟨_, rfl, fR_trans (fR_of_alike hal) (fR_div hx' hy')⟩, hst⟩
theorem m_dup {v : Value} (hd : decode (y_cc Y) pc = .ok (.dup, 1)) (hp : pc + 1 = pc') (k : mM G Y pc' lo (v :: v :: st) σ d u Q) (hc : vct v = 1 := by rfl) : mM G Y pc lo (v :: st) σ d u Q := by
  subst hp
  intro p e s m args below meth c C d0 hd0 H locs ls str hH hL hlo hst
  obtain ⟨r, t, rfl, hv, hst⟩ := hst
  exact lv_dup C.1 C.2.1 hd ((vR_cat hv).trans hc) (k p e s m args below meth c C d0 hd0 H locs ls _ hH hL hlo ⟨_, _, rfl, hv, _, _, rfl, hv, hst⟩)
theorem m_pop {v : Value} (hd : decode (y_cc Y) pc = .ok (.pop, 1)) (hp : pc + 1 = pc') (k : mM G Y pc' lo (st) σ d u Q) (hc : vct v = 1 := by rfl) : mM G Y pc lo (v :: st) σ d u Q := by
  subst hp
  intro p e s m args below meth c C d0 hd0 H locs ls str hH hL hlo hst
  obtain ⟨r, t, rfl, hv, hst⟩ := hst
  exact lv_pop C.1 C.2.1 hd ((vR_cat hv).trans hc) (k p e s m args below meth c C d0 hd0 H locs ls _ hH hL hlo hst)
theorem m_dup2 {v w : Value} (hd : decode (y_cc Y) pc = .ok (.dup2, 1)) (hp : pc + 1 = pc') (k : mM G Y pc' lo (v :: w :: v :: w :: st) σ d u Q) (hc : vct v = 1 := by rfl) (hc2 : vct w = 1 := by rfl) : mM G Y pc lo (v :: w :: st) σ d u Q := by
  subst hp
  intro p e s m args below meth c C d0 hd0 H locs ls str hH hL hlo hst
  obtain ⟨r, _, rfl, hv, r2, t, rfl, hw, hst⟩ := hst
  exact lv_dup2_11 C.1 C.2.1 hd ((vR_cat hv).trans hc) ((vR_cat hw).trans hc2) (k p e s m args below meth c C d0 hd0 H locs ls _ hH hL hlo ⟨_, _, rfl, hv, _, _, rfl, hw, _, _, rfl, hv, _, _, rfl, hw, hst⟩)
theorem m_if_eq {x : Int32} {off : Int} (hd : decode (y_cc Y) pc = .ok (.ifCond .eq off, 3)) (ht : (pc : Int) + off = (tgt : Int)) (hp : pc + 3 = pc') (kt : x = 0 → mM G Y tgt lo st σ d u Q) (kf : ¬ x = 0 → mM G Y pc' lo st σ d u Q) : mM G Y pc lo (.int x :: st) σ d u Q := by
  subst hp
  intro p e s m args below meth c C d0 hd0 H locs ls str hH hL hlo hst
  obtain ⟨_, _, rfl, hx, hst⟩ := hst
  obtain rfl := vR_int hx
  exact lv_if_eq C.1 C.2.1 hd ht (fun h => kt h p e s m args below meth c C d0 hd0 H locs ls _ hH hL hlo hst) (fun h => kf h p e s m args below meth c C d0 hd0 H locs ls _ hH hL hlo hst)
theorem m_if_ne {x : Int32} {off : Int} (hd : decode (y_cc Y) pc = .ok (.ifCond .ne off, 3)) (ht : (pc : Int) + off = (tgt : Int)) (hp : pc + 3 = pc') (kt : ¬ x = 0 → mM G Y tgt lo st σ d u Q) (kf : x = 0 → mM G Y pc' lo st σ d u Q) : mM G Y pc lo (.int x :: st) σ d u Q := by
  subst hp
  intro p e s m args below meth c C d0 hd0 H locs ls str hH hL hlo hst
  obtain ⟨_, _, rfl, hx, hst⟩ := hst
  obtain rfl := vR_int hx
  exact lv_if_ne C.1 C.2.1 hd ht (fun h => kt h p e s m args below meth c C d0 hd0 H locs ls _ hH hL hlo hst) (fun h => kf h p e s m args below meth c C d0 hd0 H locs ls _ hH hL hlo hst)
theorem m_if_lt {x : Int32} {off : Int} (hd : decode (y_cc Y) pc = .ok (.ifCond .lt off, 3)) (ht : (pc : Int) + off = (tgt : Int)) (hp : pc + 3 = pc') (kt : x < 0 → mM G Y tgt lo st σ d u Q) (kf : ¬ x < 0 → mM G Y pc' lo st σ d u Q) : mM G Y pc lo (.int x :: st) σ d u Q := by
  subst hp
  intro p e s m args below meth c C d0 hd0 H locs ls str hH hL hlo hst
  obtain ⟨_, _, rfl, hx, hst⟩ := hst
  obtain rfl := vR_int hx
  exact lv_if_lt C.1 C.2.1 hd ht (fun h => kt h p e s m args below meth c C d0 hd0 H locs ls _ hH hL hlo hst) (fun h => kf h p e s m args below meth c C d0 hd0 H locs ls _ hH hL hlo hst)
theorem m_if_ge {x : Int32} {off : Int} (hd : decode (y_cc Y) pc = .ok (.ifCond .ge off, 3)) (ht : (pc : Int) + off = (tgt : Int)) (hp : pc + 3 = pc') (kt : 0 ≤ x → mM G Y tgt lo st σ d u Q) (kf : ¬ 0 ≤ x → mM G Y pc' lo st σ d u Q) : mM G Y pc lo (.int x :: st) σ d u Q := by
  subst hp
  intro p e s m args below meth c C d0 hd0 H locs ls str hH hL hlo hst
  obtain ⟨_, _, rfl, hx, hst⟩ := hst
  obtain rfl := vR_int hx
  exact lv_if_ge C.1 C.2.1 hd ht (fun h => kt h p e s m args below meth c C d0 hd0 H locs ls _ hH hL hlo hst) (fun h => kf h p e s m args below meth c C d0 hd0 H locs ls _ hH hL hlo hst)
theorem m_if_gt {x : Int32} {off : Int} (hd : decode (y_cc Y) pc = .ok (.ifCond .gt off, 3)) (ht : (pc : Int) + off = (tgt : Int)) (hp : pc + 3 = pc') (kt : 0 < x → mM G Y tgt lo st σ d u Q) (kf : ¬ 0 < x → mM G Y pc' lo st σ d u Q) : mM G Y pc lo (.int x :: st) σ d u Q := by
  subst hp
  intro p e s m args below meth c C d0 hd0 H locs ls str hH hL hlo hst
  obtain ⟨_, _, rfl, hx, hst⟩ := hst
  obtain rfl := vR_int hx
  exact lv_if_gt C.1 C.2.1 hd ht (fun h => kt h p e s m args below meth c C d0 hd0 H locs ls _ hH hL hlo hst) (fun h => kf h p e s m args below meth c C d0 hd0 H locs ls _ hH hL hlo hst)
theorem m_if_le {x : Int32} {off : Int} (hd : decode (y_cc Y) pc = .ok (.ifCond .le off, 3)) (ht : (pc : Int) + off = (tgt : Int)) (hp : pc + 3 = pc') (kt : x ≤ 0 → mM G Y tgt lo st σ d u Q) (kf : ¬ x ≤ 0 → mM G Y pc' lo st σ d u Q) : mM G Y pc lo (.int x :: st) σ d u Q := by
  subst hp
  intro p e s m args below meth c C d0 hd0 H locs ls str hH hL hlo hst
  obtain ⟨_, _, rfl, hx, hst⟩ := hst
  obtain rfl := vR_int hx
  exact lv_if_le C.1 C.2.1 hd ht (fun h => kt h p e s m args below meth c C d0 hd0 H locs ls _ hH hL hlo hst) (fun h => kf h p e s m args below meth c C d0 hd0 H locs ls _ hH hL hlo hst)
theorem m_icmp_eq {x y : Int32} {off : Int} (hd : decode (y_cc Y) pc = .ok (.if_icmp .eq off, 3)) (ht : (pc : Int) + off = (tgt : Int)) (hp : pc + 3 = pc') (kt : x = y → mM G Y tgt lo st σ d u Q) (kf : ¬ x = y → mM G Y pc' lo st σ d u Q) : mM G Y pc lo (.int y :: .int x :: st) σ d u Q := by
  subst hp
  intro p e s m args below meth c C d0 hd0 H locs ls str hH hL hlo hst
  obtain ⟨_, _, rfl, hy, _, _, rfl, hx, hst⟩ := hst
  obtain rfl := vR_int hx
  obtain rfl := vR_int hy
  exact lv_icmp_eq C.1 C.2.1 hd ht (fun h => kt h p e s m args below meth c C d0 hd0 H locs ls _ hH hL hlo hst) (fun h => kf h p e s m args below meth c C d0 hd0 H locs ls _ hH hL hlo hst)
theorem m_icmp_ne {x y : Int32} {off : Int} (hd : decode (y_cc Y) pc = .ok (.if_icmp .ne off, 3)) (ht : (pc : Int) + off = (tgt : Int)) (hp : pc + 3 = pc') (kt : ¬ x = y → mM G Y tgt lo st σ d u Q) (kf : x = y → mM G Y pc' lo st σ d u Q) : mM G Y pc lo (.int y :: .int x :: st) σ d u Q := by
  subst hp
  intro p e s m args below meth c C d0 hd0 H locs ls str hH hL hlo hst
  obtain ⟨_, _, rfl, hy, _, _, rfl, hx, hst⟩ := hst
  obtain rfl := vR_int hx
  obtain rfl := vR_int hy
  exact lv_icmp_ne C.1 C.2.1 hd ht (fun h => kt h p e s m args below meth c C d0 hd0 H locs ls _ hH hL hlo hst) (fun h => kf h p e s m args below meth c C d0 hd0 H locs ls _ hH hL hlo hst)
theorem m_icmp_lt {x y : Int32} {off : Int} (hd : decode (y_cc Y) pc = .ok (.if_icmp .lt off, 3)) (ht : (pc : Int) + off = (tgt : Int)) (hp : pc + 3 = pc') (kt : x < y → mM G Y tgt lo st σ d u Q) (kf : ¬ x < y → mM G Y pc' lo st σ d u Q) : mM G Y pc lo (.int y :: .int x :: st) σ d u Q := by
  subst hp
  intro p e s m args below meth c C d0 hd0 H locs ls str hH hL hlo hst
  obtain ⟨_, _, rfl, hy, _, _, rfl, hx, hst⟩ := hst
  obtain rfl := vR_int hx
  obtain rfl := vR_int hy
  exact lv_icmp_lt C.1 C.2.1 hd ht (fun h => kt h p e s m args below meth c C d0 hd0 H locs ls _ hH hL hlo hst) (fun h => kf h p e s m args below meth c C d0 hd0 H locs ls _ hH hL hlo hst)
theorem m_icmp_ge {x y : Int32} {off : Int} (hd : decode (y_cc Y) pc = .ok (.if_icmp .ge off, 3)) (ht : (pc : Int) + off = (tgt : Int)) (hp : pc + 3 = pc') (kt : y ≤ x → mM G Y tgt lo st σ d u Q) (kf : ¬ y ≤ x → mM G Y pc' lo st σ d u Q) : mM G Y pc lo (.int y :: .int x :: st) σ d u Q := by
  subst hp
  intro p e s m args below meth c C d0 hd0 H locs ls str hH hL hlo hst
  obtain ⟨_, _, rfl, hy, _, _, rfl, hx, hst⟩ := hst
  obtain rfl := vR_int hx
  obtain rfl := vR_int hy
  exact lv_icmp_ge C.1 C.2.1 hd ht (fun h => kt h p e s m args below meth c C d0 hd0 H locs ls _ hH hL hlo hst) (fun h => kf h p e s m args below meth c C d0 hd0 H locs ls _ hH hL hlo hst)
theorem m_icmp_gt {x y : Int32} {off : Int} (hd : decode (y_cc Y) pc = .ok (.if_icmp .gt off, 3)) (ht : (pc : Int) + off = (tgt : Int)) (hp : pc + 3 = pc') (kt : y < x → mM G Y tgt lo st σ d u Q) (kf : ¬ y < x → mM G Y pc' lo st σ d u Q) : mM G Y pc lo (.int y :: .int x :: st) σ d u Q := by
  subst hp
  intro p e s m args below meth c C d0 hd0 H locs ls str hH hL hlo hst
  obtain ⟨_, _, rfl, hy, _, _, rfl, hx, hst⟩ := hst
  obtain rfl := vR_int hx
  obtain rfl := vR_int hy
  exact lv_icmp_gt C.1 C.2.1 hd ht (fun h => kt h p e s m args below meth c C d0 hd0 H locs ls _ hH hL hlo hst) (fun h => kf h p e s m args below meth c C d0 hd0 H locs ls _ hH hL hlo hst)
theorem m_icmp_le {x y : Int32} {off : Int} (hd : decode (y_cc Y) pc = .ok (.if_icmp .le off, 3)) (ht : (pc : Int) + off = (tgt : Int)) (hp : pc + 3 = pc') (kt : x ≤ y → mM G Y tgt lo st σ d u Q) (kf : ¬ x ≤ y → mM G Y pc' lo st σ d u Q) : mM G Y pc lo (.int y :: .int x :: st) σ d u Q := by
  subst hp
  intro p e s m args below meth c C d0 hd0 H locs ls str hH hL hlo hst
  obtain ⟨_, _, rfl, hy, _, _, rfl, hx, hst⟩ := hst
  obtain rfl := vR_int hx
  obtain rfl := vR_int hy
  exact lv_icmp_le C.1 C.2.1 hd ht (fun h => kt h p e s m args below meth c C d0 hd0 H locs ls _ hH hL hlo hst) (fun h => kf h p e s m args below meth c C d0 hd0 H locs ls _ hH hL hlo hst)
theorem m_goto {off : Int} (hd : decode (y_cc Y) pc = .ok (.goto off, 3)) (ht : (pc : Int) + off = (tgt : Int)) (k : mM G Y tgt lo st σ d u Q) : mM G Y pc lo st σ d u Q := by
  intro p e s m args below meth c C d0 hd0 H locs ls str hH hL hlo hst
  exact lv_goto C.1 C.2.1 hd ht (k p e s m args below meth c C d0 hd0 H locs ls _ hH hL hlo hst)
theorem m_ifnull {x : Nat} {off : Int} (hd : decode (y_cc Y) pc = .ok (.ifnull off, 3)) (hp : pc + 3 = pc') (k : mM G Y pc' lo st σ d u Q) : mM G Y pc lo (.ref x :: st) σ d u Q := by
  subst hp
  intro p e s m args below meth c C d0 hd0 H locs ls str hH hL hlo hst
  obtain ⟨_, _, rfl, hx, hst⟩ := hst
  obtain rfl := vR_ref hx
  exact lv_ifnull C.1 C.2.1 hd (k p e s m args below meth c C d0 hd0 H locs ls _ hH hL hlo hst)
theorem m_tableIn {dflt lo1 hi1 : Int} {offs : Array Int} {len : Nat} {x : Int32} {off : Int} (hd : decode (y_cc Y) pc = .ok (.tableswitch dflt lo1 hi1 offs, len)) (h1 : ¬ x.toInt < lo1) (h2 : ¬ hi1 < x.toInt) (ho : offs[(x.toInt - lo1).toNat]? = some off) (ht : (pc : Int) + off = (tgt : Int)) (k : mM G Y tgt lo st σ d u Q) : mM G Y pc lo (.int x :: st) σ d u Q := by
  intro p e s m args below meth c C d0 hd0 H locs ls str hH hL hlo hst
  obtain ⟨_, _, rfl, hx, hst⟩ := hst
  obtain rfl := vR_int hx
  exact lv_tableIn C.1 C.2.1 hd h1 h2 ho ht (k p e s m args below meth c C d0 hd0 H locs ls _ hH hL hlo hst)
theorem m_tableOut {dflt lo1 hi1 : Int} {offs : Array Int} {len : Nat} {x : Int32} (hd : decode (y_cc Y) pc = .ok (.tableswitch dflt lo1 hi1 offs, len)) (h : x.toInt < lo1 ∨ hi1 < x.toInt) (ht : (pc : Int) + dflt = (tgt : Int)) (k : mM G Y tgt lo st σ d u Q) : mM G Y pc lo (.int x :: st) σ d u Q := by
  intro p e s m args below meth c C d0 hd0 H locs ls str hH hL hlo hst
  obtain ⟨_, _, rfl, hx, hst⟩ := hst
  obtain rfl := vR_int hx
  exact lv_tableOut C.1 C.2.1 hd h ht (k p e s m args below meth c C d0 hd0 H locs ls _ hH hL hlo hst)
theorem m_lookup {dflt : Int} {ps : Array (Int × Int)} {len : Nat} {x : Int32} {off : Int} (hd : decode (y_cc Y) pc = .ok (.lookupswitch dflt ps, len)) (hz : (ps.toList.zip (ps.toList.drop 1)).all (fun (a, next) => a.1 < next.1) = true) (ho : Op.lookupswitch.offset ps.toList dflt x.toInt = off) (ht : (pc : Int) + off = (tgt : Int)) (k : mM G Y tgt lo st σ d u Q) : mM G Y pc lo (.int x :: st) σ d u Q := by
  intro p e s m args below meth c C d0 hd0 H locs ls str hH hL hlo hst
  obtain ⟨_, _, rfl, hx, hst⟩ := hst
  obtain rfl := vR_int hx
  exact lv_lookup C.1 C.2.1 hd hz ho ht (k p e s m args below meth c C d0 hd0 H locs ls _ hH hL hlo hst)
theorem m_iret {v : Int32} {ty : FieldType} (hd : decode (y_cc Y) pc = .ok (.ireturn, 1)) (hr : y_rt Y = some ty) (hn : narrow ty (.int v) = .int v) (hu : u.1 ≤ (y_rm Y).cells ∧ u.2 ≤ (y_rm Y).slots) (hQ : Q (some (.int v)) σ d) : mM G Y pc lo ([.int v]) σ d u Q := by
  intro p e s m args below meth c C d0 hd0 H locs ls str hH hL hlo hst
  obtain ⟨_, _, rfl, hx, rfl⟩ := hst
  obtain rfl := vR_int hx
  refine W.widen hu.1 hu.2 (W.endD hd0 ?_)
  exact W.zret C.1 C.2.1 (C.2.2.1.trans hr) hn (fun t ht hW => ⟨some (.int v), _, σ, d, rfl, ⟨_, rfl, rfl⟩, hQ, by rw [ht]; exact hH⟩) hL hd C.2.2.2.2.2.2.1
theorem m_fret {v : UInt32} (hd : decode (y_cc Y) pc = .ok (.freturn, 1)) (hr : y_rt Y = some .float) (hu : u.1 ≤ (y_rm Y).cells ∧ u.2 ≤ (y_rm Y).slots) (hQ : Q (some (.float v)) σ d) : mM G Y pc lo ([.float v]) σ d u Q := by
  intro p e s m args below meth c C d0 hd0 H locs ls str hH hL hlo hst
  obtain ⟨_, _, rfl, hx, rfl⟩ := hst
  obtain ⟨y, rfl, hy⟩ := vR_float hx
  refine W.widen hu.1 hu.2 (W.endD hd0 ?_)
  exact W.fret C.1 C.2.1 (C.2.2.1.trans hr) (fun t ht hW => ⟨some (.float v), _, σ, d, rfl, ⟨_, rfl, y, rfl, hy⟩, hQ, by rw [ht]; exact hH⟩) hL hd C.2.2.2.2.2.2.1
theorem m_aret {v : Nat} {rt : FieldType} (hd : decode (y_cc Y) pc = .ok (.areturn, 1)) (hr : y_rt Y = some rt) (hrt : (∃ n, rt = .object n) ∨ ∃ t, rt = .array t) (hu : u.1 ≤ (y_rm Y).cells ∧ u.2 ≤ (y_rm Y).slots) (hQ : Q (some (.ref v)) σ d) : mM G Y pc lo ([.ref v]) σ d u Q := by
  intro p e s m args below meth c C d0 hd0 H locs ls str hH hL hlo hst
  obtain ⟨_, _, rfl, hx, rfl⟩ := hst
  obtain rfl := vR_ref hx
  refine W.widen hu.1 hu.2 (W.endD hd0 ?_)
  exact W.aret C.1 C.2.1 (C.2.2.1.trans hr) hrt (Or.inr ⟨_, rfl⟩) (fun t ht hW => ⟨some (.ref v), _, σ, d, rfl, ⟨_, rfl, rfl⟩, hQ, by rw [ht]; exact hH⟩) hL hd C.2.2.2.2.2.2.1
theorem m_aretN {rt : FieldType} (hd : decode (y_cc Y) pc = .ok (.areturn, 1)) (hr : y_rt Y = some rt) (hrt : (∃ n, rt = .object n) ∨ ∃ t, rt = .array t) (hu : u.1 ≤ (y_rm Y).cells ∧ u.2 ≤ (y_rm Y).slots) (hQ : Q (some .null) σ d) : mM G Y pc lo ([.null]) σ d u Q := by
  intro p e s m args below meth c C d0 hd0 H locs ls str hH hL hlo hst
  obtain ⟨_, _, rfl, hx, rfl⟩ := hst
  obtain rfl := vR_null hx
  refine W.widen hu.1 hu.2 (W.endD hd0 ?_)
  exact W.aret C.1 C.2.1 (C.2.2.1.trans hr) hrt (Or.inl rfl) (fun t ht hW => ⟨some .null, _, σ, d, rfl, ⟨_, rfl, rfl⟩, hQ, by rw [ht]; exact hH⟩) hL hd C.2.2.2.2.2.2.1
theorem m_vret (hd : decode (y_cc Y) pc = .ok (.return_, 1)) (hr : y_rt Y = none) (hu : u.1 ≤ (y_rm Y).cells ∧ u.2 ≤ (y_rm Y).slots) (hQ : Q none σ d) : mM G Y pc lo ([]) σ d u Q := by
  intro p e s m args below meth c C d0 hd0 H locs ls str hH hL hlo hst
  cases hst
  refine W.widen hu.1 hu.2 (W.endD hd0 ?_)
  exact W.vret C.1 C.2.1 (C.2.2.1.trans hr) (fun t ht hW => ⟨none, none, σ, d, rfl, rfl, hQ, by rw [ht]; exact hH⟩) hL hd C.2.2.2.2.2.2.1
/-! longs -/
theorem m_ldc2 {i : Nat} {v : Int64} (hd : decode (y_cc Y) pc = .ok (.ldc2_w i, 3)) (hc : Cond.constantLong Y.1.cls i v ∈ y_ws Y) (hp : pc + 3 = pc') (k : mM G Y pc' lo (.long v :: st) σ d u Q) : mM G Y pc lo (st) σ d u Q := by
  subst hp
  intro p e s m args below meth c C d0 hd0 H locs ls str hH hL hlo hst
  exact lv_ldc2 C.1 C.2.1 C.2.2.2.2.1 (dr_words C.2.2.2.2.2.1 d0 _ hc) hd (k p e s m args below meth c C d0 hd0 H locs ls _ hH hL hlo ⟨_, _, rfl, rfl, hst⟩)
theorem m_lload {i : Nat} {x : Int64} (hd : decode (y_cc Y) pc = .ok (.lload i, 2)) (hl : lo[i]? = some (some (.long x))) (hl2 : lo[i + 1]? = some none) (hp : pc + 2 = pc') (k : mM G Y pc' lo (.long x :: st) σ d u Q) : mM G Y pc lo (st) σ d u Q := by
  subst hp
  intro p e s m args below meth c C d0 hd0 H locs ls str hH hL hlo hst
  obtain ⟨r, hr, hv⟩ := mL_at hlo hl (fun _ => hl2)
  obtain rfl := vR_long hv
  exact lv_lload C.1 C.2.1 hd hr (k p e s m args below meth c C d0 hd0 H locs ls _ hH hL hlo ⟨_, _, rfl, rfl, hst⟩)
theorem m_lload_n {i : Fin 4} {x : Int64} (hd : decode (y_cc Y) pc = .ok (.lload_n i, 1)) (hl : lo[i.val]? = some (some (.long x))) (hl2 : lo[i.val + 1]? = some none) (hp : pc + 1 = pc') (k : mM G Y pc' lo (.long x :: st) σ d u Q) : mM G Y pc lo (st) σ d u Q := by
  subst hp
  intro p e s m args below meth c C d0 hd0 H locs ls str hH hL hlo hst
  obtain ⟨r, hr, hv⟩ := mL_at hlo hl (fun _ => hl2)
  obtain rfl := vR_long hv
  exact lv_lload_n C.1 C.2.1 hd rfl hr (k p e s m args below meth c C d0 hd0 H locs ls _ hH hL hlo ⟨_, _, rfl, rfl, hst⟩)
theorem m_lstore {i : Nat} {x : Int64} (hd : decode (y_cc Y) pc = .ok (.lstore i, 2)) (hi : i + 1 < y_nl Y) (hlo' : (lo.set i (some (.long x))).set (i + 1) none = lo') (hp : pc + 2 = pc') (k : mM G Y pc' lo' st σ d u Q) : mM G Y pc lo (.long x :: st) σ d u Q := by
  subst hp
  subst hlo'
  intro p e s m args below meth c C d0 hd0 H locs ls str hH hL hlo hst
  obtain ⟨r, t, rfl, hv, hst⟩ := hst
  obtain rfl := vR_long hv
  obtain ⟨lv, h1, h2, h3⟩ := hlo
  exact lv_lstore C.1 C.2.1 hd h1 hi rfl (fun ls' h4 => (k p e s m args below meth c C d0 hd0 H locs ls' _ hH hL (mL_store2 h4 h2 h3 rfl) hst))
theorem m_lstore_n {i : Fin 4} {x : Int64} (hd : decode (y_cc Y) pc = .ok (.lstore_n i, 1)) (hi : i.val + 1 < y_nl Y) (hlo' : (lo.set i.val (some (.long x))).set (i.val + 1) none = lo') (hp : pc + 1 = pc') (k : mM G Y pc' lo' st σ d u Q) : mM G Y pc lo (.long x :: st) σ d u Q := by
  subst hp
  subst hlo'
  intro p e s m args below meth c C d0 hd0 H locs ls str hH hL hlo hst
  obtain ⟨r, t, rfl, hv, hst⟩ := hst
  obtain rfl := vR_long hv
  obtain ⟨lv, h1, h2, h3⟩ := hlo
  exact lv_lstore_n C.1 C.2.1 hd rfl h1 hi rfl (fun ls' h4 => (k p e s m args below meth c C d0 hd0 H locs ls' _ hH hL (mL_store2 h4 h2 h3 rfl) hst))
theorem m_ladd {x y : Int64} (hd : decode (y_cc Y) pc = .ok (.ladd, 1)) (hp : pc + 1 = pc') (k : mM G Y pc' lo (.long (x + y) :: st) σ d u Q) : mM G Y pc lo (.long y :: .long x :: st) σ d u Q := by
  subst hp
  intro p e s m args below meth c C d0 hd0 H locs ls str hH hL hlo hst
  obtain ⟨_, _, rfl, hy, _, _, rfl, hx, hst⟩ := hst
  obtain rfl := vR_long hx
  obtain rfl := vR_long hy
  exact lv_ladd C.1 C.2.1 hd (k p e s m args below meth c C d0 hd0 H locs ls _ hH hL hlo ⟨_, _, rfl, rfl, hst⟩)
theorem m_lmul {x y : Int64} (hd : decode (y_cc Y) pc = .ok (.lmul, 1)) (hp : pc + 1 = pc') (k : mM G Y pc' lo (.long (x * y) :: st) σ d u Q) : mM G Y pc lo (.long y :: .long x :: st) σ d u Q := by
  subst hp
  intro p e s m args below meth c C d0 hd0 H locs ls str hH hL hlo hst
  obtain ⟨_, _, rfl, hy, _, _, rfl, hx, hst⟩ := hst
  obtain rfl := vR_long hx
  obtain rfl := vR_long hy
  exact lv_lmul C.1 C.2.1 hd (k p e s m args below meth c C d0 hd0 H locs ls _ hH hL hlo ⟨_, _, rfl, rfl, hst⟩)
theorem m_lcmp {x y : Int64} (hd : decode (y_cc Y) pc = .ok (.lcmp, 1)) (hp : pc + 1 = pc') (k : mM G Y pc' lo (.int (lg_cmp x y) :: st) σ d u Q) : mM G Y pc lo (.long y :: .long x :: st) σ d u Q := by
  subst hp
  intro p e s m args below meth c C d0 hd0 H locs ls str hH hL hlo hst
  obtain ⟨_, _, rfl, hy, _, _, rfl, hx, hst⟩ := hst
  obtain rfl := vR_long hx
  obtain rfl := vR_long hy
  exact W.lcmp C.1 C.2.1 hd (k p e s m args below meth c C d0 hd0 H locs ls _ hH hL hlo ⟨_, _, rfl, rfl, hst⟩)
theorem m_i2l {x : Int32} (hd : decode (y_cc Y) pc = .ok (.i2l, 1)) (hp : pc + 1 = pc') (k : mM G Y pc' lo (.long x.toInt64 :: st) σ d u Q) : mM G Y pc lo (.int x :: st) σ d u Q := by
  subst hp
  intro p e s m args below meth c C d0 hd0 H locs ls str hH hL hlo hst
  obtain ⟨_, _, rfl, hx, hst⟩ := hst
  obtain rfl := vR_int hx
  exact lv_i2l C.1 C.2.1 hd rfl (k p e s m args below meth c C d0 hd0 H locs ls _ hH hL hlo ⟨_, _, rfl, rfl, hst⟩)
theorem m_ishr {x y : Int32} (hd : decode (y_cc Y) pc = .ok (.ishr, 1)) (hp : pc + 1 = pc') (k : mM G Y pc' lo (.int (x >>> (y &&& 31)) :: st) σ d u Q) : mM G Y pc lo (.int y :: .int x :: st) σ d u Q := by
  subst hp
  intro p e s m args below meth c C d0 hd0 H locs ls str hH hL hlo hst
  obtain ⟨_, _, rfl, hy, _, _, rfl, hx, hst⟩ := hst
  obtain rfl := vR_int hx
  obtain rfl := vR_int hy
  exact lv_ishr C.1 C.2.1 hd (k p e s m args below meth c C d0 hd0 H locs ls _ hH hL hlo ⟨_, _, rfl, rfl, hst⟩)
theorem m_lret {v : Int64} (hd : decode (y_cc Y) pc = .ok (.lreturn, 1)) (hr : y_rt Y = some .long) (hu : u.1 ≤ (y_rm Y).cells ∧ u.2 ≤ (y_rm Y).slots) (hQ : Q (some (.long v)) σ d) : mM G Y pc lo ([.long v]) σ d u Q := by
  intro p e s m args below meth c C d0 hd0 H locs ls str hH hL hlo hst
  obtain ⟨_, _, rfl, hx, rfl⟩ := hst
  obtain rfl := vR_long hx
  refine W.widen hu.1 hu.2 (W.endD hd0 ?_)
  exact W.lret C.1 C.2.1 (C.2.2.1.trans hr) (fun t ht hW => ⟨some (.long v), _, σ, d, rfl, ⟨_, rfl, rfl⟩, hQ, by rw [ht]; exact hH⟩) hL hd C.2.2.2.2.2.2.1
end ROWS
