/-! FIXED FACTS of the methods: words, links, rooms (by program) -/
set_option maxRecDepth 100000 in
theorem zz_c_first : True := trivial
abbrev mL_cell : MD := (yL_cell, cL_cell, 2, (some .int), wsL_cell, ({ frames := 0, cells := 0, slots := 0, locals := 0 } : Room))
abbrev mL_low : MD := (yL_low, cL_low, 2, (some .int), wsL_low, ({ frames := 0, cells := 0, slots := 0, locals := 0 } : Room))
set_option maxRecDepth 100000 in
theorem kc_L_low_7 : Cond.constant mL_low.1.cls 7 (2147483647) ∈ y_ws mL_low := by decide +kernel
abbrev mL_digest : MD := (yL_digest, cL_digest, 5, (some .long), wsL_digest, ({ frames := 4, cells := 0, slots := 0, locals := 90 } : Room))
set_option maxRecDepth 100000 in
theorem kc_L_digest_8 : Cond.constantLong mL_digest.1.cls 8 (7) ∈ y_ws mL_digest := by decide +kernel
set_option maxRecDepth 100000 in
theorem kc_L_digest_10 : Cond.constantLong mL_digest.1.cls 10 (31) ∈ y_ws mL_digest := by decide +kernel
set_option maxRecDepth 100000 in
theorem cl_L_digest_12 : CV mL_digest 12 mX10_count 1 := ⟨gL_digest_X10_count, ⟨⟨_, rfl⟩, by decide +kernel, by decide⟩⟩
set_option maxRecDepth 100000 in
theorem cl_L_digest_18 : CV mL_digest 18 mX10_channel 2 := ⟨gL_digest_X10_channel, ⟨⟨_, rfl⟩, by decide +kernel, by decide⟩⟩
set_option maxRecDepth 100000 in
theorem cl_L_digest_22 : CV mL_digest 22 mX10_entry 2 := ⟨gL_digest_X10_entry, ⟨⟨_, rfl⟩, by decide +kernel, by decide⟩⟩
set_option maxRecDepth 100000 in
theorem cl_L_digest_25 : CV mL_digest 25 mX10_sample 2 := ⟨gL_digest_X10_sample, ⟨⟨_, rfl⟩, by decide +kernel, by decide⟩⟩
set_option maxRecDepth 100000 in
theorem cl_L_digest_28 : CV mL_digest 28 mX10_account 1 := ⟨gL_digest_X10_account, ⟨⟨_, rfl⟩, by decide +kernel, by decide⟩⟩
set_option maxRecDepth 100000 in
theorem cl_L_digest_31 : CV mL_digest 31 mX10_held 1 := ⟨gL_digest_X10_held, ⟨⟨_, rfl⟩, by decide +kernel, by decide⟩⟩
abbrev mL_act : MD := (yL_act, cL_act, 3, (some .int), wsL_act, ({ frames := 7, cells := 0, slots := 0, locals := 160 } : Room))
set_option maxRecDepth 100000 in
theorem cl_L_act_34 : CS mL_act 34 mL_low 2 := ⟨gL_act_L_low, ⟨⟨_, rfl⟩, by decide +kernel, by decide⟩⟩
set_option maxRecDepth 100000 in
theorem cl_L_act_39 : CV mL_act 39 mX10_setSource 5 := ⟨gL_act_X10_setSource, ⟨⟨_, rfl⟩, by decide +kernel, by decide⟩⟩
set_option maxRecDepth 100000 in
theorem cl_L_act_43 : CV mL_act 43 mX10_setResistance 2 := ⟨gL_act_X10_setResistance, ⟨⟨_, rfl⟩, by decide +kernel, by decide⟩⟩
set_option maxRecDepth 100000 in
theorem cl_L_act_46 : CV mL_act 46 mX10_set 2 := ⟨gL_act_X10_set, ⟨⟨_, rfl⟩, by decide +kernel, by decide⟩⟩
set_option maxRecDepth 100000 in
theorem cl_L_act_49 : CV mL_act 49 mX10_addEntry 3 := ⟨gL_act_X10_addEntry, ⟨⟨_, rfl⟩, by decide +kernel, by decide⟩⟩
set_option maxRecDepth 100000 in
theorem cl_L_act_53 : CV mL_act 53 mX10_removeEntry 1 := ⟨gL_act_X10_removeEntry, ⟨⟨_, rfl⟩, by decide +kernel, by decide⟩⟩
set_option maxRecDepth 100000 in
theorem cl_L_act_56 : CV mL_act 56 mX10_setSettle 2 := ⟨gL_act_X10_setSettle, ⟨⟨_, rfl⟩, by decide +kernel, by decide⟩⟩
set_option maxRecDepth 100000 in
theorem cl_L_act_59 : CV mL_act 59 mX10_order 1 := ⟨gL_act_X10_order, ⟨⟨_, rfl⟩, by decide +kernel, by decide⟩⟩
set_option maxRecDepth 100000 in
theorem cl_L_act_62 : CV mL_act 62 mX10_pass 1 := ⟨gL_act_X10_pass, ⟨⟨_, rfl⟩, by decide +kernel, by decide⟩⟩
set_option maxRecDepth 100000 in
theorem cl_L_act_65 : CV mL_act 65 mX10_take 1 := ⟨gL_act_X10_take, ⟨⟨_, rfl⟩, by decide +kernel, by decide⟩⟩
set_option maxRecDepth 100000 in
theorem cl_L_act_68 : CV mL_act 68 mX10_restore 1 := ⟨gL_act_X10_restore, ⟨⟨_, rfl⟩, by decide +kernel, by decide⟩⟩
set_option maxRecDepth 100000 in
theorem cl_L_act_71 : CV mL_act 71 mX10_scan 1 := ⟨gL_act_X10_scan, ⟨⟨_, rfl⟩, by decide +kernel, by decide⟩⟩
abbrev mL_size : MD := (yL_size, cL_size, 1, (some .int), wsL_size, ({ frames := 0, cells := 0, slots := 0, locals := 0 } : Room))
abbrev mL_isRight : MD := (yL_isRight, cL_isRight, 12, (some .boolean), wsL_isRight, ({ frames := 7, cells := 0, slots := 0, locals := 166 } : Room))
set_option maxRecDepth 100000 in
theorem cl_L_isRight_12 : CV mL_isRight 12 mX10_count 1 := ⟨gL_isRight_X10_count, ⟨⟨_, rfl⟩, by decide +kernel, by decide⟩⟩
set_option maxRecDepth 100000 in
theorem cl_L_isRight_22 : CV mL_isRight 22 mX10_entry 2 := ⟨gL_isRight_X10_entry, ⟨⟨_, rfl⟩, by decide +kernel, by decide⟩⟩
set_option maxRecDepth 100000 in
theorem cl_L_isRight_74 : CV mL_isRight 74 mX10_would 2 := ⟨gL_isRight_X10_would, ⟨⟨_, rfl⟩, by decide +kernel, by decide⟩⟩
set_option maxRecDepth 100000 in
theorem cl_L_isRight_77 : CV mL_isRight 77 mX10_why 1 := ⟨gL_isRight_X10_why, ⟨⟨_, rfl⟩, by decide +kernel, by decide⟩⟩
set_option maxRecDepth 100000 in
theorem cl_L_isRight_18 : CV mL_isRight 18 mX10_channel 2 := ⟨gL_isRight_X10_channel, ⟨⟨_, rfl⟩, by decide +kernel, by decide⟩⟩
set_option maxRecDepth 100000 in
theorem cl_L_isRight_80 : CS mL_isRight 80 mL_size 1 := ⟨gL_isRight_L_size, ⟨⟨_, rfl⟩, by decide +kernel, by decide⟩⟩
set_option maxRecDepth 100000 in
theorem cl_L_isRight_83 : CV mL_isRight 83 mX10_settleFor 2 := ⟨gL_isRight_X10_settleFor, ⟨⟨_, rfl⟩, by decide +kernel, by decide⟩⟩
set_option maxRecDepth 100000 in
theorem cl_L_isRight_86 : CV mL_isRight 86 mX10_value 2 := ⟨gL_isRight_X10_value, ⟨⟨_, rfl⟩, by decide +kernel, by decide⟩⟩
set_option maxRecDepth 100000 in
theorem kc_L_isRight_89 : Cond.constant mL_isRight.1.cls 89 (-10000009) ∈ y_ws mL_isRight := by decide +kernel
set_option maxRecDepth 100000 in
theorem cl_L_isRight_25 : CV mL_isRight 25 mX10_sample 2 := ⟨gL_isRight_X10_sample, ⟨⟨_, rfl⟩, by decide +kernel, by decide⟩⟩
set_option maxRecDepth 100000 in
theorem cl_L_isRight_28 : CV mL_isRight 28 mX10_account 1 := ⟨gL_isRight_X10_account, ⟨⟨_, rfl⟩, by decide +kernel, by decide⟩⟩
set_option maxRecDepth 100000 in
theorem cl_L_isRight_90 : CV mL_isRight 90 mX10_groundsNeeded 0 := ⟨gL_isRight_X10_groundsNeeded, ⟨⟨_, rfl⟩, by decide +kernel, by decide⟩⟩
set_option maxRecDepth 100000 in
theorem cl_L_isRight_94 : CV mL_isRight 94 mX10_bestRule 0 := ⟨gL_isRight_X10_bestRule, ⟨⟨_, rfl⟩, by decide +kernel, by decide⟩⟩
