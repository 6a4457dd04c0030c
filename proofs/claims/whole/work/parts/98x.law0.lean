/-! THE LAW: an outside array read; its machine; its fixed facts -/
/-- the script: at an outside address, of L ints xs -/
def SCR (G : GP) (L : Nat) (xs : Nat → Int32) : Prop := G.2.2.1 4 < g_bs G ∧ ∃ scr : Cell, (g_H G)[G.2.2.1 4]? = some scr ∧ scr.cls = G.2.2.1 5 ∧ (∀ k, scr.vm ≠ .statics k) ∧ scr.vm ≠ .unknown ∧ scr.slots.size = L ∧ ∀ j, j < L → scr.slots[j]? = some (.int (xs j))
section LAWR
variable {G : GP} {Y : MD} {pc pc' : Nat} {lo : List (Option Value)} {st : List Value} {σ : Sh} {d : Dt} {u : Nat × Nat} {Q : Option Value → Sh → Dt → Prop} {L : Nat} {xs : Nat → Int32}
theorem scr_arr {s : State} {d0 : Drawn} {scr : Cell} (h : ArrOfT s (G.2.2.1 5) .int) (h2 : scr.cls = G.2.2.1 5) (h3 : ∀ k, scr.vm ≠ .statics k) : (s.setDrawn d0).isArrayOf scr .int := by
  obtain ⟨k, hk, comp, hc⟩ := (h 0 (fun _ => .null)).2
  refine ⟨h3, k, ?_, comp, hc⟩
  show s.vm.classes[scr.cls]? = some k
  rw [h2]; exact hk
theorem m_salen {x : Int64} {v : Int32} (hs : SCR G L xs) (hd : decode (y_cc Y) pc = .ok (.arraylength, 1)) (hv : Int32.ofNat L = v) (hp : pc + 1 = pc') (kk : mM G Y pc' lo (.int v :: st) σ d u Q) : mM G Y pc lo (.long x :: st) σ d u Q := by
  subst hp
  intro p e s m args below meth cd C d0 hd0 H locs ls str hH hL hlo hst
  obtain ⟨rx, _, rfl, hx, hst⟩ := hst
  obtain rfl : rx = Value.ref (G.2.2.1 4) := hx
  obtain ⟨hb, scr, h1, h2, h3, h4, h5, h6⟩ := hs
  have hk := C.2.2.2.2.2.2.2.1.2.2.2
  refine W.alen (n := Int32.ofNat L) C.1 C.2.1 (by rw [hH.2.1 _ hb]; exact h1) (scr_arr hk h2 h3) (by rw [h5] <;> rfl) rfl rfl hd ?_
  rw [hv]
  exact kk p e s m args below meth cd C d0 hd0 H locs ls _ hH hL hlo ⟨_, _, rfl, rfl, hst⟩
theorem m_siald {x : Int64} {i : Int32} {j : Nat} (hs : SCR G L xs) (hd : decode (y_cc Y) pc = .ok (.iaload, 1)) (hi : i = nI j) (hj : j < L) (hL31 : L < 2 ^ 31) (hp : pc + 1 = pc') (kk : mM G Y pc' lo (.int (xs j) :: st) σ d u Q) : mM G Y pc lo (.int i :: .long x :: st) σ d u Q := by
  subst hp; subst hi
  intro p e s m args below meth cd C d0 hd0 H locs ls str hH hL hlo hst
  obtain ⟨ri, _, rfl, hx0, rx, _, rfl, hx, hst⟩ := hst
  obtain rfl := vR_int hx0
  obtain rfl : rx = Value.ref (G.2.2.1 4) := hx
  obtain ⟨hb, scr, h1, h2, h3, h4, h5, h6⟩ := hs
  have hk := C.2.2.2.2.2.2.2.1.2.2.2
  refine W.iald (v := .int (xs j)) C.1 C.2.1 (by rw [hH.2.1 _ hb]; exact h1) (scr_arr hk h2 h3) h4 (by rw [h5]; exact vp_in_nI hj hL31) (by rw [nI_clamp (by omega)]; exact h6 j hj) rfl rfl hd ?_
  exact kk p e s m args below meth cd C d0 hd0 H locs ls _ hH hL hlo ⟨_, _, rfl, rfl, hst⟩
theorem m_xload_n {i : Fin 4} {x : Int64} (hd : decode (y_cc Y) pc = .ok (.aload_n i, 1)) (hl : lo[i.val]? = some (some (.long x))) (hp : pc + 1 = pc') (k : mM G Y pc' lo (.long x :: st) σ d u Q) : mM G Y pc lo st σ d u Q := by
  subst hp
  intro p e s m args below meth c C d0 hd0 H locs ls str hH hL hlo hst
  obtain ⟨r, hr, hv⟩ := mL_at hlo hl
  obtain rfl : r = Value.ref (G.2.2.1 4) := hv
  exact lv_aload_n C.1 C.2.1 hd rfl hr (k p e s m args below meth c C d0 hd0 H locs ls _ hH hL hlo ⟨_, _, rfl, rfl, hst⟩)
end LAWR
abbrev mLw (nm : String) : MD := (⟨RL, nm, "([I)Z"⟩, cL_law, 4, ret, wsL_law, room_1)
theorem wn_7 : Cond.classLink RL 7 RX10 ∈ wsL_law ∧ Cond.instantiable RX10 6 ∈ wsL_law ∧ Cond.initialized RX10 ∈ wsL_law := ⟨List.mem_append_left _ (by decide +kernel), List.mem_append_left _ (by decide +kernel), List.mem_append_left _ (by decide +kernel)⟩
theorem fn_L_law_7 {nm : String} : FN (mLw nm) 7 10 := ⟨RX10, TX10, 6, rfl, inlX10, wn_7.1, wn_7.2.1, wn_7.2.2, rfl⟩
set_option maxRecDepth 100000 in
theorem wl_9 : Cond.initialized RX10 ∈ wsL_law ∧ Cond.methodLink RL 9 yX10_init ∈ wsL_law ∧ Cond.instanceMethod yX10_init ∈ wsL_law := ⟨List.mem_append_left _ (by decide +kernel), List.mem_append_left _ (by decide +kernel), List.mem_append_left _ (by decide +kernel)⟩
theorem cl_L_law_9 {nm : String} : CI (mLw nm) 9 mX10_init 0 := ⟨gL_law_X10_init, wl_9.1, wl_9.2.1, wl_9.2.2, rfl, rfl, ⟨⟨_, rfl⟩, by decide +kernel, ⟨Nat.le_of_ble_eq_true rfl, Nat.le_of_ble_eq_true rfl⟩⟩⟩
theorem wn_10 : Cond.classLink RL 10 RX11 ∈ wsL_law ∧ Cond.instantiable RX11 17 ∈ wsL_law ∧ Cond.initialized RX11 ∈ wsL_law := ⟨List.mem_append_left _ (by decide +kernel), List.mem_append_left _ (by decide +kernel), List.mem_append_left _ (by decide +kernel)⟩
theorem fn_L_law_10 {nm : String} : FN (mLw nm) 10 11 := ⟨RX11, TX11, 17, rfl, inlX11, wn_10.1, wn_10.2.1, wn_10.2.2, rfl⟩
set_option maxRecDepth 100000 in
theorem wl_12 : Cond.initialized RX11 ∈ wsL_law ∧ Cond.methodLink RL 12 yX11_init ∈ wsL_law ∧ Cond.instanceMethod yX11_init ∈ wsL_law := ⟨List.mem_append_left _ (by decide +kernel), List.mem_append_left _ (by decide +kernel), List.mem_append_left _ (by decide +kernel)⟩
theorem cl_L_law_12 {nm : String} : CI (mLw nm) 12 mX11_init 0 := ⟨gL_law_X11_init, wl_12.1, wl_12.2.1, wl_12.2.2, rfl, rfl, ⟨⟨_, rfl⟩, by decide +kernel, ⟨Nat.le_of_ble_eq_true rfl, Nat.le_of_ble_eq_true rfl⟩⟩⟩
set_option maxRecDepth 100000 in
theorem cl_L_law_13 {nm : String} : CV (mLw nm) 13 mX10_setSource 5 := ⟨gL_law_X10_setSource, ⟨⟨_, rfl⟩, by decide +kernel, ⟨Nat.le_of_ble_eq_true rfl, Nat.le_of_ble_eq_true rfl⟩⟩⟩
set_option maxRecDepth 100000 in
theorem cl_L_law_17 {nm : String} : CV (mLw nm) 17 mX11_setSource 5 := ⟨gL_law_X11_setSource, ⟨⟨_, rfl⟩, by decide +kernel, ⟨Nat.le_of_ble_eq_true rfl, Nat.le_of_ble_eq_true rfl⟩⟩⟩
set_option maxRecDepth 100000 in
theorem cl_L_law_18 {nm : String} : CV (mLw nm) 18 mX10_setResistance 2 := ⟨gL_law_X10_setResistance, ⟨⟨_, rfl⟩, by decide +kernel, ⟨Nat.le_of_ble_eq_true rfl, Nat.le_of_ble_eq_true rfl⟩⟩⟩
set_option maxRecDepth 100000 in
theorem cl_L_law_22 {nm : String} : CV (mLw nm) 22 mX11_setResistance 2 := ⟨gL_law_X11_setResistance, ⟨⟨_, rfl⟩, by decide +kernel, ⟨Nat.le_of_ble_eq_true rfl, Nat.le_of_ble_eq_true rfl⟩⟩⟩
set_option maxRecDepth 100000 in
theorem cl_L_law_23 {nm : String} : CV (mLw nm) 23 mX10_set 2 := ⟨gL_law_X10_set, ⟨⟨_, rfl⟩, by decide +kernel, ⟨Nat.le_of_ble_eq_true rfl, Nat.le_of_ble_eq_true rfl⟩⟩⟩
set_option maxRecDepth 100000 in
theorem cl_L_law_26 {nm : String} : CV (mLw nm) 26 mX11_set 2 := ⟨gL_law_X11_set, ⟨⟨_, rfl⟩, by decide +kernel, ⟨Nat.le_of_ble_eq_true rfl, Nat.le_of_ble_eq_true rfl⟩⟩⟩
set_option maxRecDepth 100000 in
theorem cl_L_law_27 {nm : String} : CV (mLw nm) 27 mX10_addEntry 3 := ⟨gL_law_X10_addEntry, ⟨⟨_, rfl⟩, by decide +kernel, ⟨Nat.le_of_ble_eq_true rfl, Nat.le_of_ble_eq_true rfl⟩⟩⟩
set_option maxRecDepth 100000 in
theorem cl_L_law_31 {nm : String} : CV (mLw nm) 31 mX11_addEntry 3 := ⟨gL_law_X11_addEntry, ⟨⟨_, rfl⟩, by decide +kernel, ⟨Nat.le_of_ble_eq_true rfl, Nat.le_of_ble_eq_true rfl⟩⟩⟩
set_option maxRecDepth 100000 in
theorem cl_L_law_32 {nm : String} : CV (mLw nm) 32 mX10_removeEntry 1 := ⟨gL_law_X10_removeEntry, ⟨⟨_, rfl⟩, by decide +kernel, ⟨Nat.le_of_ble_eq_true rfl, Nat.le_of_ble_eq_true rfl⟩⟩⟩
set_option maxRecDepth 100000 in
theorem cl_L_law_36 {nm : String} : CV (mLw nm) 36 mX11_removeEntry 1 := ⟨gL_law_X11_removeEntry, ⟨⟨_, rfl⟩, by decide +kernel, ⟨Nat.le_of_ble_eq_true rfl, Nat.le_of_ble_eq_true rfl⟩⟩⟩
set_option maxRecDepth 100000 in
theorem cl_L_law_37 {nm : String} : CV (mLw nm) 37 mX10_setSettle 2 := ⟨gL_law_X10_setSettle, ⟨⟨_, rfl⟩, by decide +kernel, ⟨Nat.le_of_ble_eq_true rfl, Nat.le_of_ble_eq_true rfl⟩⟩⟩
set_option maxRecDepth 100000 in
theorem cl_L_law_40 {nm : String} : CV (mLw nm) 40 mX11_setSettle 2 := ⟨gL_law_X11_setSettle, ⟨⟨_, rfl⟩, by decide +kernel, ⟨Nat.le_of_ble_eq_true rfl, Nat.le_of_ble_eq_true rfl⟩⟩⟩
set_option maxRecDepth 100000 in
theorem cl_L_law_41 {nm : String} : CV (mLw nm) 41 mX10_order 1 := ⟨gL_law_X10_order, ⟨⟨_, rfl⟩, by decide +kernel, ⟨Nat.le_of_ble_eq_true rfl, Nat.le_of_ble_eq_true rfl⟩⟩⟩
set_option maxRecDepth 100000 in
theorem cl_L_law_44 {nm : String} : CV (mLw nm) 44 mX11_order 1 := ⟨gL_law_X11_order, ⟨⟨_, rfl⟩, by decide +kernel, ⟨Nat.le_of_ble_eq_true rfl, Nat.le_of_ble_eq_true rfl⟩⟩⟩
set_option maxRecDepth 100000 in
theorem cl_L_law_45 {nm : String} : CV (mLw nm) 45 mX10_scan 1 := ⟨gL_law_X10_scan, ⟨⟨_, rfl⟩, by decide +kernel, ⟨Nat.le_of_ble_eq_true rfl, Nat.le_of_ble_eq_true rfl⟩⟩⟩
set_option maxRecDepth 100000 in
theorem cl_L_law_48 {nm : String} : CV (mLw nm) 48 mX11_scan 1 := ⟨gL_law_X11_scan, ⟨⟨_, rfl⟩, by decide +kernel, ⟨Nat.le_of_ble_eq_true rfl, Nat.le_of_ble_eq_true rfl⟩⟩⟩
set_option maxRecDepth 100000 in
theorem cl_L_law_49 {nm : String} : CV (mLw nm) 49 mX10_pass 1 := ⟨gL_law_X10_pass, ⟨⟨_, rfl⟩, by decide +kernel, ⟨Nat.le_of_ble_eq_true rfl, Nat.le_of_ble_eq_true rfl⟩⟩⟩
set_option maxRecDepth 100000 in
theorem cl_L_law_52 {nm : String} : CV (mLw nm) 52 mX11_pass 1 := ⟨gL_law_X11_pass, ⟨⟨_, rfl⟩, by decide +kernel, ⟨Nat.le_of_ble_eq_true rfl, Nat.le_of_ble_eq_true rfl⟩⟩⟩
set_option maxRecDepth 100000 in
theorem cl_L_law_53 {nm : String} : CV (mLw nm) 53 mX10_take 1 := ⟨gL_law_X10_take, ⟨⟨_, rfl⟩, by decide +kernel, ⟨Nat.le_of_ble_eq_true rfl, Nat.le_of_ble_eq_true rfl⟩⟩⟩
set_option maxRecDepth 100000 in
theorem cl_L_law_56 {nm : String} : CV (mLw nm) 56 mX11_take 1 := ⟨gL_law_X11_take, ⟨⟨_, rfl⟩, by decide +kernel, ⟨Nat.le_of_ble_eq_true rfl, Nat.le_of_ble_eq_true rfl⟩⟩⟩
set_option maxRecDepth 100000 in
theorem cl_L_law_57 {nm : String} : CV (mLw nm) 57 mX10_restore 1 := ⟨gL_law_X10_restore, ⟨⟨_, rfl⟩, by decide +kernel, ⟨Nat.le_of_ble_eq_true rfl, Nat.le_of_ble_eq_true rfl⟩⟩⟩
set_option maxRecDepth 100000 in
theorem cl_L_law_60 {nm : String} : CV (mLw nm) 60 mX11_restore 1 := ⟨gL_law_X11_restore, ⟨⟨_, rfl⟩, by decide +kernel, ⟨Nat.le_of_ble_eq_true rfl, Nat.le_of_ble_eq_true rfl⟩⟩⟩
set_option maxRecDepth 100000 in
theorem cl_L_law_61 {nm : String} : CV (mLw nm) 61 mX10_undo 0 := ⟨gL_law_X10_undo, ⟨⟨_, rfl⟩, by decide +kernel, ⟨Nat.le_of_ble_eq_true rfl, Nat.le_of_ble_eq_true rfl⟩⟩⟩
set_option maxRecDepth 100000 in
theorem cl_L_law_65 {nm : String} : CV (mLw nm) 65 mX11_undo 0 := ⟨gL_law_X11_undo, ⟨⟨_, rfl⟩, by decide +kernel, ⟨Nat.le_of_ble_eq_true rfl, Nat.le_of_ble_eq_true rfl⟩⟩⟩
set_option maxRecDepth 100000 in
theorem cl_L_law_66 {nm : String} : CV (mLw nm) 66 mX10_append 1 := ⟨gL_law_X10_append, ⟨⟨_, rfl⟩, by decide +kernel, ⟨Nat.le_of_ble_eq_true rfl, Nat.le_of_ble_eq_true rfl⟩⟩⟩
set_option maxRecDepth 100000 in
theorem cl_L_law_69 {nm : String} : CV (mLw nm) 69 mX11_append 1 := ⟨gL_law_X11_append, ⟨⟨_, rfl⟩, by decide +kernel, ⟨Nat.le_of_ble_eq_true rfl, Nat.le_of_ble_eq_true rfl⟩⟩⟩
set_option maxRecDepth 100000 in
theorem cl_L_law_70 {nm : String} : CV (mLw nm) 70 mX10_clearText 0 := ⟨gL_law_X10_clearText, ⟨⟨_, rfl⟩, by decide +kernel, ⟨Nat.le_of_ble_eq_true rfl, Nat.le_of_ble_eq_true rfl⟩⟩⟩
set_option maxRecDepth 100000 in
theorem cl_L_law_73 {nm : String} : CV (mLw nm) 73 mX11_clearText 0 := ⟨gL_law_X11_clearText, ⟨⟨_, rfl⟩, by decide +kernel, ⟨Nat.le_of_ble_eq_true rfl, Nat.le_of_ble_eq_true rfl⟩⟩⟩
set_option maxRecDepth 100000 in
theorem cl_L_law_74 {nm : String} : CV (mLw nm) 74 mX10_load 0 := ⟨gL_law_X10_load, ⟨⟨_, rfl⟩, by decide +kernel, ⟨Nat.le_of_ble_eq_true rfl, Nat.le_of_ble_eq_true rfl⟩⟩⟩
set_option maxRecDepth 100000 in
theorem cl_L_law_77 {nm : String} : CV (mLw nm) 77 mX11_load 0 := ⟨gL_law_X11_load, ⟨⟨_, rfl⟩, by decide +kernel, ⟨Nat.le_of_ble_eq_true rfl, Nat.le_of_ble_eq_true rfl⟩⟩⟩
set_option maxRecDepth 100000 in
theorem cl_L_law_78 {nm : String} : CV (mLw nm) 78 mX10_count 1 := ⟨gL_law_X10_count, ⟨⟨_, rfl⟩, by decide +kernel, ⟨Nat.le_of_ble_eq_true rfl, Nat.le_of_ble_eq_true rfl⟩⟩⟩
set_option maxRecDepth 100000 in
theorem cl_L_law_81 {nm : String} : CV (mLw nm) 81 mX11_count 1 := ⟨gL_law_X11_count, ⟨⟨_, rfl⟩, by decide +kernel, ⟨Nat.le_of_ble_eq_true rfl, Nat.le_of_ble_eq_true rfl⟩⟩⟩
set_option maxRecDepth 100000 in
theorem cl_L_law_82 {nm : String} : CV (mLw nm) 82 mX10_channel 2 := ⟨gL_law_X10_channel, ⟨⟨_, rfl⟩, by decide +kernel, ⟨Nat.le_of_ble_eq_true rfl, Nat.le_of_ble_eq_true rfl⟩⟩⟩
set_option maxRecDepth 100000 in
theorem cl_L_law_85 {nm : String} : CV (mLw nm) 85 mX11_channel 2 := ⟨gL_law_X11_channel, ⟨⟨_, rfl⟩, by decide +kernel, ⟨Nat.le_of_ble_eq_true rfl, Nat.le_of_ble_eq_true rfl⟩⟩⟩
set_option maxRecDepth 100000 in
theorem cl_L_law_86 {nm : String} : CV (mLw nm) 86 mX10_entry 2 := ⟨gL_law_X10_entry, ⟨⟨_, rfl⟩, by decide +kernel, ⟨Nat.le_of_ble_eq_true rfl, Nat.le_of_ble_eq_true rfl⟩⟩⟩
set_option maxRecDepth 100000 in
theorem cl_L_law_89 {nm : String} : CV (mLw nm) 89 mX11_entry 2 := ⟨gL_law_X11_entry, ⟨⟨_, rfl⟩, by decide +kernel, ⟨Nat.le_of_ble_eq_true rfl, Nat.le_of_ble_eq_true rfl⟩⟩⟩
set_option maxRecDepth 100000 in
theorem cl_L_law_90 {nm : String} : CV (mLw nm) 90 mX10_value 2 := ⟨gL_law_X10_value, ⟨⟨_, rfl⟩, by decide +kernel, ⟨Nat.le_of_ble_eq_true rfl, Nat.le_of_ble_eq_true rfl⟩⟩⟩
set_option maxRecDepth 100000 in
theorem cl_L_law_93 {nm : String} : CV (mLw nm) 93 mX11_value 2 := ⟨gL_law_X11_value, ⟨⟨_, rfl⟩, by decide +kernel, ⟨Nat.le_of_ble_eq_true rfl, Nat.le_of_ble_eq_true rfl⟩⟩⟩
set_option maxRecDepth 100000 in
theorem cl_L_law_94 {nm : String} : CV (mLw nm) 94 mX10_sample 2 := ⟨gL_law_X10_sample, ⟨⟨_, rfl⟩, by decide +kernel, ⟨Nat.le_of_ble_eq_true rfl, Nat.le_of_ble_eq_true rfl⟩⟩⟩
set_option maxRecDepth 100000 in
theorem cl_L_law_97 {nm : String} : CV (mLw nm) 97 mX11_sample 2 := ⟨gL_law_X11_sample, ⟨⟨_, rfl⟩, by decide +kernel, ⟨Nat.le_of_ble_eq_true rfl, Nat.le_of_ble_eq_true rfl⟩⟩⟩
set_option maxRecDepth 100000 in
theorem cl_L_law_98 {nm : String} : CV (mLw nm) 98 mX10_account 1 := ⟨gL_law_X10_account, ⟨⟨_, rfl⟩, by decide +kernel, ⟨Nat.le_of_ble_eq_true rfl, Nat.le_of_ble_eq_true rfl⟩⟩⟩
set_option maxRecDepth 100000 in
theorem cl_L_law_101 {nm : String} : CV (mLw nm) 101 mX11_account 1 := ⟨gL_law_X11_account, ⟨⟨_, rfl⟩, by decide +kernel, ⟨Nat.le_of_ble_eq_true rfl, Nat.le_of_ble_eq_true rfl⟩⟩⟩
set_option maxRecDepth 100000 in
theorem cl_L_law_102 {nm : String} : CV (mLw nm) 102 mX10_held 1 := ⟨gL_law_X10_held, ⟨⟨_, rfl⟩, by decide +kernel, ⟨Nat.le_of_ble_eq_true rfl, Nat.le_of_ble_eq_true rfl⟩⟩⟩
set_option maxRecDepth 100000 in
theorem cl_L_law_105 {nm : String} : CV (mLw nm) 105 mX11_held 1 := ⟨gL_law_X11_held, ⟨⟨_, rfl⟩, by decide +kernel, ⟨Nat.le_of_ble_eq_true rfl, Nat.le_of_ble_eq_true rfl⟩⟩⟩
set_option maxRecDepth 100000 in
theorem cl_L_law_106 {nm : String} : CV (mLw nm) 106 mX10_would 2 := ⟨gL_law_X10_would, ⟨⟨_, rfl⟩, by decide +kernel, ⟨Nat.le_of_ble_eq_true rfl, Nat.le_of_ble_eq_true rfl⟩⟩⟩
set_option maxRecDepth 100000 in
theorem cl_L_law_109 {nm : String} : CV (mLw nm) 109 mX11_would 2 := ⟨gL_law_X11_would, ⟨⟨_, rfl⟩, by decide +kernel, ⟨Nat.le_of_ble_eq_true rfl, Nat.le_of_ble_eq_true rfl⟩⟩⟩
set_option maxRecDepth 100000 in
theorem cl_L_law_110 {nm : String} : CV (mLw nm) 110 mX10_why 1 := ⟨gL_law_X10_why, ⟨⟨_, rfl⟩, by decide +kernel, ⟨Nat.le_of_ble_eq_true rfl, Nat.le_of_ble_eq_true rfl⟩⟩⟩
set_option maxRecDepth 100000 in
theorem cl_L_law_113 {nm : String} : CV (mLw nm) 113 mX11_why 1 := ⟨gL_law_X11_why, ⟨⟨_, rfl⟩, by decide +kernel, ⟨Nat.le_of_ble_eq_true rfl, Nat.le_of_ble_eq_true rfl⟩⟩⟩
set_option maxRecDepth 100000 in
theorem cl_L_law_114 {nm : String} : CV (mLw nm) 114 mX10_settleFor 2 := ⟨gL_law_X10_settleFor, ⟨⟨_, rfl⟩, by decide +kernel, ⟨Nat.le_of_ble_eq_true rfl, Nat.le_of_ble_eq_true rfl⟩⟩⟩
set_option maxRecDepth 100000 in
theorem cl_L_law_117 {nm : String} : CV (mLw nm) 117 mX11_settleFor 2 := ⟨gL_law_X11_settleFor, ⟨⟨_, rfl⟩, by decide +kernel, ⟨Nat.le_of_ble_eq_true rfl, Nat.le_of_ble_eq_true rfl⟩⟩⟩
set_option maxRecDepth 100000 in
theorem cl_L_law_118 {nm : String} : CV (mLw nm) 118 mX10_bestRule 0 := ⟨gL_law_X10_bestRule, ⟨⟨_, rfl⟩, by decide +kernel, ⟨Nat.le_of_ble_eq_true rfl, Nat.le_of_ble_eq_true rfl⟩⟩⟩
set_option maxRecDepth 100000 in
theorem cl_L_law_121 {nm : String} : CV (mLw nm) 121 mX11_bestRule 0 := ⟨gL_law_X11_bestRule, ⟨⟨_, rfl⟩, by decide +kernel, ⟨Nat.le_of_ble_eq_true rfl, Nat.le_of_ble_eq_true rfl⟩⟩⟩
set_option maxRecDepth 100000 in
theorem cl_L_law_122 {nm : String} : CV (mLw nm) 122 mX10_groundsNeeded 0 := ⟨gL_law_X10_groundsNeeded, ⟨⟨_, rfl⟩, by decide +kernel, ⟨Nat.le_of_ble_eq_true rfl, Nat.le_of_ble_eq_true rfl⟩⟩⟩
set_option maxRecDepth 100000 in
theorem cl_L_law_125 {nm : String} : CV (mLw nm) 125 mX11_groundsNeeded 0 := ⟨gL_law_X11_groundsNeeded, ⟨⟨_, rfl⟩, by decide +kernel, ⟨Nat.le_of_ble_eq_true rfl, Nat.le_of_ble_eq_true rfl⟩⟩⟩
/-- the memory behind the two constructors -/
def bL0 : Nat → VC := bn (fun _ => fsh 0 0) 0 (fsh 10 0)
def bL1 : Nat → VC := bo bL0 0 (bX10_18 (0 + 0))
def bL2 : Nat → VC := bn bL1 214 (fsh 11 0)
def bLw : Nat → VC := bo bL2 214 (bX11_25 (0 + 214))
theorem bL_33 : (bLw 33).2.2.1 = fun j => if j = 4 then some 158 else if j = 3 then some 127 else if j = 2 then some 96 else if j = 1 then some 65 else if j = 0 then some 34 else none := rfl
theorem rf_33 : S1.2.2.2.1 33 = fun j => if j = 4 then some 158 else if j = 3 then some 127 else if j = 2 then some 96 else if j = 1 then some 65 else if j = 0 then some 34 else none := by
  funext j
  match j with
  | 0 => rfl
  | 1 => rfl
  | 2 => rfl
  | 3 => rfl
  | 4 => rfl
  | n + 5 => rw [if_neg (by omega), if_neg (by omega), if_neg (by omega), if_neg (by omega), if_neg (by omega)]; rfl
set_option maxRecDepth 100000 in
theorem bL_sh : ∀ k, k < 221 → (bLw k).1 = S1.2.1 k ∧ (bLw k).2.1 = S1.2.2.1 k ∧ (bLw k).2.2.2.1 = S1.2.2.2.2 k ∧ ∀ j, j < 17 → (bLw k).2.2.1 j = S1.2.2.2.1 k j := by decide +kernel
theorem bL_15 : ∀ k, k < 221 → 14 < (bLw k).1 → k = 33 := by decide +kernel
theorem mapIdx_cg {α β : Type} (l : List α) (F F' : Nat → α → β) (h : ∀ j c, j < l.length → F j c = F' j c) : l.mapIdx F = l.mapIdx F' := by
  refine List.ext_getElem (by simp) (fun i h1 h2 => ?_)
  simp only [List.getElem_mapIdx]
  exact h _ _ (by simpa using h1)
theorem fco_17 (k : Nat) : (fco k).length ≤ 17 := by
  match k with
  | 0 | 1 | 2 | 3 | 4 | 5 | 6 | 7 | 8 | 9 | 10 => decide
  | n + 11 => exact Nat.le_refl 17
section LAWS
variable {G : GP} {Y : MD} {pc : Nat} {lo : List (Option Value)} {st : List Value} {σ : Sh} {d : Dt} {u : Nat × Nat} {Q : Option Value → Sh → Dt → Prop} {M : Nat → VC}
theorem vw_at {k : Nat} (eV : Vw σ d = ov M 0 221 bLw) (hk : k < 221) : Vw σ d k = bLw k := by
  have := z_at (m := k) eV hk
  rw [Nat.zero_add] at this
  exact this
theorem cel_S1 {k : Nat} {f : Nat → Nat → UInt32} (eV : Vw σ d = ov M 0 221 bLw) (hk : k < 221) : cel G S1 (d.1, f) k = cel G σ (d.1, f) k := by
  obtain ⟨h1, h2, h3, h4⟩ := bL_sh k hk
  have e := vw_at eV hk
  have e1 : σ.2.1 k = S1.2.1 k := (congrArg (fun c : VC => c.1) e).trans h1
  have e2 : σ.2.2.1 k = S1.2.2.1 k := (congrArg (fun c : VC => c.2.1) e).trans h2
  have e3 : σ.2.2.2.2 k = S1.2.2.2.2 k := (congrArg (fun c : VC => c.2.2.2.1) e).trans h3
  have e4 : ∀ j, j < 17 → σ.2.2.2.1 k j = S1.2.2.2.1 k j := fun j hj => (congrArg (fun c : VC => c.2.2.1 j) e).trans (h4 j hj)
  unfold cel
  rw [e1, e2]
  by_cases c1 : S1.2.1 k < 12
  · rw [if_pos c1, if_pos c1]
    refine congrArg Sum.inr (congrArg (Prod.mk _) (mapIdx_cg _ _ _ (fun j c hj => ?_)))
    have hj17 : j < 17 := Nat.lt_of_lt_of_le hj (fco_17 _)
    unfold fvl
    rw [e4 j hj17, e3]
  · rw [if_neg c1, if_neg c1]
    by_cases c2 : S1.2.1 k = 12
    · rw [if_pos c2, if_pos c2]
    · rw [if_neg c2, if_neg c2]
      by_cases c3 : S1.2.1 k = 13
      · rw [if_pos c3, if_pos c3]
      · rw [if_neg c3, if_neg c3]
        by_cases c4 : S1.2.1 k = 14
        · rw [if_pos c4, if_pos c4]
        · rw [if_neg c4, if_neg c4]
          have h33 : k = 33 := bL_15 k hk (by rw [h1]; omega)
          subst h33
          have e5 : σ.2.2.2.1 33 = S1.2.2.2.1 33 := ((congrArg (fun c : VC => c.2.2.1) e).trans bL_33).trans rf_33.symm
          rw [e5]
theorem HR_S1 {H : Heap} (e1 : σ.1 = 0 + 221) (eV : Vw σ d = ov M 0 221 bLw) (hH : HR G σ d H) : HR G S1 d H := by
  obtain ⟨hz, hlow, f, hf, hold⟩ := hH
  refine ⟨by rw [hz, e1]; rfl, hlow, f, hf, fun k hk => ?_⟩
  have hk' : k < 221 := hk
  rw [cel_S1 eV hk']
  exact hold k (by rw [e1]; omega)
theorem m_S1 (e1 : σ.1 = 0 + 221) (eV : Vw σ d = ov M 0 221 bLw) (kk : mM G Y pc lo st S1 d u Q) : mM G Y pc lo st σ d u Q :=
  fun p e s m args below meth cd C d0 hd0 H locs ls str hH hL hlo hst => kk p e s m args below meth cd C d0 hd0 H locs ls str (HR_S1 e1 eV hH) hL hlo hst
/-- the state that the constructors leave -/
abbrev A0 (d : Dt) : AS := (d.1 215, 0, d.1 217, d.2 218, d.2 214 6, d.1 219, 0)
theorem dv (eV : Vw σ d = ov M 0 221 bLw) {k : Nat} (hk : k < 221) : d.1 k = (bLw k).2.2.2.2.1 := congrArg (fun c : VC => c.2.2.2.2.1) (vw_at eV hk)
theorem df (eV : Vw σ d = ov M 0 221 bLw) {k : Nat} (hk : k < 221) : d.2 k = (bLw k).2.2.2.2.2 := congrArg (fun c : VC => c.2.2.2.2.2) (vw_at eV hk)
def iniS (j : Nat) : Int32 := if j = 40 then 2048 else if j = 41 then 1000 else if 78 ≤ j ∧ j < 88 then -1 else 0
set_option maxRecDepth 100000 in
theorem bL_208 : ∀ j, j < 408 → (bLw 215).2.2.2.2.1 j = iniS j := by decide +kernel
set_option maxRecDepth 100000 in
theorem bL_su : (∀ j, j < 40 → (bLw 4).2.2.2.2.1 j = 0) ∧ (∀ j, j < 32 → (bLw 6).2.2.2.2.1 j = 0) ∧ (∀ j, j < 3 → (bLw 8).2.2.2.2.1 j = iniS (40 + j)) ∧ (bLw 2).2.2.2.2.1 3 = 0 ∧ (bLw 9).2.2.2.2.1 1 = 0 ∧ (bLw 9).2.2.2.2.1 2 = 0 ∧ (∀ j, j < 10 → (bLw 13).2.2.2.2.1 j = -10000009) ∧ (∀ j, j < 6 → (bLw 15).2.2.2.2.1 j = 0) ∧ (bLw 16).2.2.2.2.1 1 = 0 ∧ (bLw 24).2.2.2.2.1 1 = 0 ∧ (bLw 32).2.2.2.2.1 1 = 0 ∧ (bLw 32).2.2.2.2.1 2 = 0 ∧ (bLw 205).2.2.2.2.1 1 = 0 ∧ (bLw 214).2.2.2.2.1 5 = 0 ∧ (bLw 214).2.2.2.2.1 8 = 0 ∧ (bLw 1).2.2.2.2.2 6 = 0 ∧ (bLw 214).2.2.2.2.2 6 = 0 := by decide +kernel
theorem ini_s (eV : Vw σ d = ov M 0 221 bLw) {j : Nat} (hj : j < 408) : d.1 215 j = iniS j := by rw [dv eV (by decide)]; exact bL_208 j hj
theorem ini_0 {j : Nat} (h : j < 40 ∨ 42 ≤ j ∧ j < 78 ∨ 88 ≤ j) : iniS j = 0 := by unfold iniS; rw [if_neg (by omega), if_neg (by omega), if_neg (by omega)]
theorem ini_m {j : Nat} (h : 78 ≤ j ∧ j < 88) : iniS j = -1 := by unfold iniS; rw [if_neg (by omega), if_neg (by omega), if_pos h]
theorem OK_0 (eV : Vw σ d = ov M 0 221 bLw) : OK (A0 d) := by
  have s0 : ∀ j, (j < 40 ∨ 42 ≤ j ∧ j < 78 ∨ 88 ≤ j) → j < 408 → d.1 215 j = 0 := fun j h h4 => (ini_s eV h4).trans (ini_0 h)
  refine ⟨⟨⟨fun c hc => ?_, ⟨2048, by decide, (ini_s eV (by decide)).trans rfl⟩, 0, by decide, s0 43 (by omega) (by decide), fun i hi => absurd hi (Nat.not_lt_zero i)⟩, ⟨0, by decide, s0 76 (by omega) (by decide)⟩, ⟨0, by decide, s0 77 (by omega) (by decide)⟩, fun p hp => Or.inl ((ini_s eV (by omega)).trans (ini_m (by omega))), fun p hp => Or.inl (s0 _ (by omega) (by omega)), ?_⟩, Nat.zero_le 5, fun i hi => absurd hi (Nat.not_lt_zero i), Nat.zero_le 140, fun j hj => absurd hj (Nat.not_lt_zero j)⟩
  · refine ⟨0, 0, 0, s0 _ (by omega) (by omega), by decide, s0 _ (by omega) (by omega), by decide, s0 _ (by omega) (by omega), by decide, ?_, fun h => absurd h (by decide), fun h => absurd h (by decide)⟩
    show -64 ≤ (d.1 215 (5 * c + 2)).toInt ∧ (d.1 215 (5 * c + 2)).toInt ≤ 4095
    rw [s0 (5 * c + 2) (by omega) (by omega)]; decide
  · show d.1 215 76 = d.1 215 88 + d.1 215 89 + d.1 215 90 + d.1 215 91
    rw [s0 76 (by omega) (by decide), s0 88 (by omega) (by decide), s0 89 (by omega) (by decide), s0 90 (by omega) (by decide), s0 91 (by omega) (by decide)]; decide
theorem MM_0 (eV : Vw σ d = ov M 0 221 bLw) : MM d (A0 d) := by
  obtain ⟨-, -, -, -, -, -, -, -, -, -, -, -, -, c5, c8, -, -⟩ := bL_su
  exact ⟨rfl, Nat.zero_le 5, (congrFun (dv eV (k := 214) (by decide)) 5).trans c5, rfl, rfl, rfl, rfl, (congrFun (dv eV (k := 214) (by decide)) 8).trans c8⟩
theorem CR_0 (eV : Vw σ d = ov M 0 221 bLw) : CR d (A0 d) := by
  obtain ⟨b4, b6, b8, b2, b91, b92, b13, b15, b16, b24, b321, b322, b189, -, -, f1, f207⟩ := bL_su
  have s0 : ∀ j, (j < 40 ∨ 42 ≤ j ∧ j < 78 ∨ 88 ≤ j) → j < 408 → d.1 215 j = 0 := fun j h h4 => (ini_s eV h4).trans (ini_0 h)
  have v : ∀ k j, k < 221 → d.1 k j = (bLw k).2.2.2.2.1 j := fun k j hk => congrFun (dv eV hk) j
  refine ⟨⟨⟨fun j hj => ?_, fun j hj => ?_, fun j hj => ?_, ?_⟩, ⟨0, 0, by decide, by decide, (v 9 1 (by decide)).trans b91, (v 9 2 (by decide)).trans b92, s0 77 (by omega) (by decide), fun k j hk => absurd hk (Nat.not_lt_zero k)⟩, fun p hp => ?_, fun i hi => ?_, ⟨?_, fun q => ?_⟩, ⟨?_, fun q => ?_⟩, ?_⟩, ⟨0, by decide, (v 32 1 (by decide)).trans b321, (v 32 2 (by decide)).trans b322, Nat.zero_le 5, fun k hk => absurd hk (Nat.not_lt_zero k)⟩, (v 205 1 (by decide)).trans b189, fun j hj => absurd hj (Nat.not_lt_zero j)⟩
  · exact ((v 4 j (by decide)).trans (b4 j hj)).trans (s0 j (by omega) (by omega)).symm
  · exact ((v 6 j (by decide)).trans (b6 j hj)).trans (s0 (44 + j) (by omega) (by omega)).symm
  · exact ((v 8 j (by decide)).trans (b8 j hj)).trans (ini_s eV (by omega)).symm
  · exact ((v 2 3 (by decide)).trans b2).trans (s0 43 (by omega) (by decide)).symm
  · show d.1 13 p = if d.1 215 (78 + p) = -1 then -10000009 else d.1 215 (78 + p)
    rw [if_pos ((ini_s eV (by omega)).trans (ini_m (by omega)))]
    exact (v 13 p (by decide)).trans (b13 p hp)
  · exact ((v 15 i (by decide)).trans (b15 i hi)).trans (s0 (88 + i) (by omega) (by omega)).symm
  · exact ((v 16 1 (by decide)).trans b16).trans (s0 254 (by omega) (by decide)).symm
  · exact absurd (q.symm.trans (s0 254 (by omega) (by decide))) (by decide)
  · exact ((v 24 1 (by decide)).trans b24).trans (s0 331 (by omega) (by decide)).symm
  · exact absurd (q.symm.trans (s0 331 (by omega) (by decide))) (by decide)
  · show d.2 1 6 = d.2 214 6
    rw [df eV (k := 1) (by decide), df eV (k := 214) (by decide), f1, f207]
theorem MM_cf {d d' : Dt} {A : AS} (h : MM d A) (hf : cfr d d') : MM d' A := h.fr' hf (by intro j; omega) (by omega) (by intro j; omega) (by intro j; omega) (by omega) (by intro j; omega) (by omega)
theorem CR_mf {d d' : Dt} {A : AS} (hC : CR d A) (hf : mfr d d') : CR d' A :=
  ⟨TR_bk hC.1 ⟨fun x j h1 h2 => hf.1 x j (by omega), fun j => hf.2 1 j (by omega)⟩, HS_bk hC.2.1 (fun x j h1 h2 => hf.1 x j (by omega)) (fun x j h1 h2 => hf.2 x j (by omega)), (hf.1 205 1 (by omega)).trans hC.2.2.1, fun j hj => (hf.1 206 j (by omega)).trans (hC.2.2.2 j hj)⟩
theorem lw_gt {L k : Nat} (hL : L ≤ 3072) (hk : 6 * k ≤ L) : nI L - 6 < nI (6 * k) ↔ L < 6 * k + 6 := by
  rw [Int32.lt_iff_toInt_lt, show (6 : Int32) = nI 6 from rfl, pk_sub_toInt (by omega) (by omega), nI_toInt (by omega)]
  omega
theorem lw_inc (k : Nat) : nI (6 * k) + 6 = nI (6 * (k + 1)) := nI_add (6 * k) 6
end LAWS
