/-! THE LAW (0): its machine, its fixed facts -/
abbrev mLw (nm : String) : MD := (⟨RL, nm, "([I)Z"⟩, cL_law, 13, ret, wsL_law, room_1)
theorem wn_13 : Cond.classLink RL 13 RX10 ∈ wsL_law ∧ Cond.instantiable RX10 6 ∈ wsL_law ∧ Cond.initialized RX10 ∈ wsL_law := ⟨List.mem_append_left _ (by decide +kernel), List.mem_append_left _ (by decide +kernel), List.mem_append_left _ (by decide +kernel)⟩
theorem fn_L_law_13 {nm : String} : FN (mLw nm) 13 10 := ⟨RX10, TX10, 6, rfl, inlX10, wn_13.1, wn_13.2.1, wn_13.2.2, rfl⟩
set_option maxRecDepth 100000 in
theorem wl_97 : Cond.initialized RX10 ∈ wsL_law ∧ Cond.methodLink RL 97 yX10_init ∈ wsL_law ∧ Cond.instanceMethod yX10_init ∈ wsL_law := ⟨List.mem_append_left _ (by decide +kernel), List.mem_append_left _ (by decide +kernel), List.mem_append_left _ (by decide +kernel)⟩
set_option maxRecDepth 100000 in
theorem cl_L_law_97 {nm : String} : CI (mLw nm) 97 mX10_init 0 := ⟨gL_law_X10_init, wl_97.1, wl_97.2.1, wl_97.2.2, rfl, rfl, ⟨⟨_, rfl⟩, by decide +kernel, ⟨Nat.le_of_ble_eq_true rfl, Nat.le_of_ble_eq_true rfl⟩⟩⟩
set_option maxRecDepth 100000 in
theorem cl_L_law_98 {nm : String} : CS (mLw nm) 98 mL_cell 2 := ⟨gL_law_L_cell, ⟨⟨_, rfl⟩, by decide +kernel, ⟨Nat.le_of_ble_eq_true rfl, Nat.le_of_ble_eq_true rfl⟩⟩⟩
set_option maxRecDepth 100000 in
theorem cl_L_law_102 {nm : String} : CS (mLw nm) 102 mL_digest 1 := ⟨gL_law_L_digest, ⟨⟨_, rfl⟩, by decide +kernel, ⟨Nat.le_of_ble_eq_true rfl, Nat.le_of_ble_eq_true rfl⟩⟩⟩
set_option maxRecDepth 100000 in
theorem cl_L_law_106 {nm : String} : CS (mLw nm) 106 mL_act 2 := ⟨gL_law_L_act, ⟨⟨_, rfl⟩, by decide +kernel, ⟨Nat.le_of_ble_eq_true rfl, Nat.le_of_ble_eq_true rfl⟩⟩⟩
set_option maxRecDepth 100000 in
theorem wk_110 : Cond.constant RL 110 (-10000001) ∈ wsL_law := List.mem_append_left _ (by decide +kernel)
theorem kc_L_law_110 {nm : String} : Cond.constant (mLw nm).1.cls 110 (-10000001) ∈ y_ws (mLw nm) := wk_110
set_option maxRecDepth 100000 in
theorem cl_L_law_111 {nm : String} : CS (mLw nm) 111 mL_isRight 1 := ⟨gL_law_L_isRight, ⟨⟨_, rfl⟩, by decide +kernel, ⟨Nat.le_of_ble_eq_true rfl, Nat.le_of_ble_eq_true rfl⟩⟩⟩
set_option maxRecDepth 100000 in
theorem cl_L_law_115 {nm : String} : CV (mLw nm) 115 mX10_undo 0 := ⟨gL_law_X10_undo, ⟨⟨_, rfl⟩, by decide +kernel, ⟨Nat.le_of_ble_eq_true rfl, Nat.le_of_ble_eq_true rfl⟩⟩⟩
set_option maxRecDepth 100000 in
theorem cl_L_law_12 {nm : String} : CV (mLw nm) 12 mX10_count 1 := ⟨gL_law_X10_count, ⟨⟨_, rfl⟩, by decide +kernel, ⟨Nat.le_of_ble_eq_true rfl, Nat.le_of_ble_eq_true rfl⟩⟩⟩
set_option maxRecDepth 100000 in
theorem cl_L_law_74 {nm : String} : CV (mLw nm) 74 mX10_would 2 := ⟨gL_law_X10_would, ⟨⟨_, rfl⟩, by decide +kernel, ⟨Nat.le_of_ble_eq_true rfl, Nat.le_of_ble_eq_true rfl⟩⟩⟩
set_option maxRecDepth 100000 in
theorem cl_L_law_71 {nm : String} : CV (mLw nm) 71 mX10_scan 1 := ⟨gL_law_X10_scan, ⟨⟨_, rfl⟩, by decide +kernel, ⟨Nat.le_of_ble_eq_true rfl, Nat.le_of_ble_eq_true rfl⟩⟩⟩
set_option maxRecDepth 100000 in
theorem cl_L_law_25 {nm : String} : CV (mLw nm) 25 mX10_sample 2 := ⟨gL_law_X10_sample, ⟨⟨_, rfl⟩, by decide +kernel, ⟨Nat.le_of_ble_eq_true rfl, Nat.le_of_ble_eq_true rfl⟩⟩⟩
set_option maxRecDepth 100000 in
theorem cl_L_law_22 {nm : String} : CV (mLw nm) 22 mX10_entry 2 := ⟨gL_law_X10_entry, ⟨⟨_, rfl⟩, by decide +kernel, ⟨Nat.le_of_ble_eq_true rfl, Nat.le_of_ble_eq_true rfl⟩⟩⟩
set_option maxRecDepth 100000 in
theorem cl_L_law_39 {nm : String} : CV (mLw nm) 39 mX10_setSource 5 := ⟨gL_law_X10_setSource, ⟨⟨_, rfl⟩, by decide +kernel, ⟨Nat.le_of_ble_eq_true rfl, Nat.le_of_ble_eq_true rfl⟩⟩⟩
set_option maxRecDepth 100000 in
theorem cl_L_law_46 {nm : String} : CV (mLw nm) 46 mX10_set 2 := ⟨gL_law_X10_set, ⟨⟨_, rfl⟩, by decide +kernel, ⟨Nat.le_of_ble_eq_true rfl, Nat.le_of_ble_eq_true rfl⟩⟩⟩
set_option maxRecDepth 100000 in
theorem cl_L_law_49 {nm : String} : CV (mLw nm) 49 mX10_addEntry 3 := ⟨gL_law_X10_addEntry, ⟨⟨_, rfl⟩, by decide +kernel, ⟨Nat.le_of_ble_eq_true rfl, Nat.le_of_ble_eq_true rfl⟩⟩⟩
set_option maxRecDepth 100000 in
theorem cl_L_law_62 {nm : String} : CV (mLw nm) 62 mX10_pass 1 := ⟨gL_law_X10_pass, ⟨⟨_, rfl⟩, by decide +kernel, ⟨Nat.le_of_ble_eq_true rfl, Nat.le_of_ble_eq_true rfl⟩⟩⟩
set_option maxRecDepth 100000 in
theorem cl_L_law_118 {nm : String} : CV (mLw nm) 118 mX10_load 0 := ⟨gL_law_X10_load, ⟨⟨_, rfl⟩, by decide +kernel, ⟨Nat.le_of_ble_eq_true rfl, Nat.le_of_ble_eq_true rfl⟩⟩⟩
set_option maxRecDepth 100000 in
theorem cl_L_law_31 {nm : String} : CV (mLw nm) 31 mX10_held 1 := ⟨gL_law_X10_held, ⟨⟨_, rfl⟩, by decide +kernel, ⟨Nat.le_of_ble_eq_true rfl, Nat.le_of_ble_eq_true rfl⟩⟩⟩
