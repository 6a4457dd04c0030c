/-! FIXED FACTS of the methods: words, links, rooms (by program) -/
set_option maxRecDepth 100000 in
theorem zz_b_first : True := trivial
abbrev mX10_init : MD := (yX10_init, cX10_init, 1, none, wsX10_init, ({ frames := 6, cells := 213, slots := 16688, locals := 125 } : Room))
set_option maxRecDepth 100000 in
theorem ob_X10_init_1 : Cond.methodLink mX10_init.1.cls 1 objectInit ∈ y_ws mX10_init ∧ Cond.instanceMethod objectInit ∈ y_ws mX10_init ∧ Cond.code objectInit ⟨#[0xb1]⟩ 1 none ∈ y_ws mX10_init := ⟨by decide +kernel, by decide +kernel, by decide +kernel⟩
set_option maxRecDepth 100000 in
theorem fn_X10_init_7 : FN mX10_init 7 6 := ⟨RX6, TX6, 7, rfl, by decide +kernel, by decide +kernel, by decide +kernel, by decide +kernel, rfl⟩
set_option maxRecDepth 100000 in
theorem cl_X10_init_9 : CI mX10_init 9 mX6_init 0 := ⟨gX10_init_X6_init, by decide +kernel, by decide +kernel, by decide +kernel, by decide +kernel, rfl, ⟨⟨_, rfl⟩, by decide +kernel, by decide⟩⟩
set_option maxRecDepth 100000 in
theorem fa_X10_init_10 : FA mX10_init 10 10 0 "LScanRing$State;" true := ⟨RX10, TX10, 6, rfl, by decide, by decide +kernel, by decide +kernel, rfl, rfl, rfl, fun _ _ => rfl⟩
set_option maxRecDepth 100000 in
theorem fn_X10_init_16 : FN mX10_init 16 1 := ⟨RX1, TX1, 3, rfl, by decide +kernel, by decide +kernel, by decide +kernel, by decide +kernel, rfl⟩
set_option maxRecDepth 100000 in
theorem cl_X10_init_18 : CI mX10_init 18 mX1_init 0 := ⟨gX10_init_X1_init, by decide +kernel, by decide +kernel, by decide +kernel, by decide +kernel, rfl, ⟨⟨_, rfl⟩, by decide +kernel, by decide⟩⟩
set_option maxRecDepth 100000 in
theorem fa_X10_init_19 : FA mX10_init 19 10 1 "LScanRing$History;" true := ⟨RX10, TX10, 6, rfl, by decide, by decide +kernel, by decide +kernel, rfl, rfl, rfl, fun _ _ => rfl⟩
set_option maxRecDepth 100000 in
theorem fn_X10_init_23 : FN mX10_init 23 0 := ⟨RX0, TX0, 5, rfl, by decide +kernel, by decide +kernel, by decide +kernel, by decide +kernel, rfl⟩
set_option maxRecDepth 100000 in
theorem cl_X10_init_25 : CIN mX10_init 25 mX0_init 0 := ⟨gX10_init_X0_init_n25, by decide +kernel, by decide +kernel, by decide +kernel, by decide +kernel, rfl, ⟨⟨_, rfl⟩, by decide +kernel, by decide⟩⟩
set_option maxRecDepth 100000 in
theorem fa_X10_init_26 : FA mX10_init 26 10 2 "LScanRing$Converter;" true := ⟨RX10, TX10, 6, rfl, by decide, by decide +kernel, by decide +kernel, rfl, rfl, rfl, fun _ _ => rfl⟩
set_option maxRecDepth 100000 in
theorem fn_X10_init_30 : FN mX10_init 30 5 := ⟨RX5, TX5, 3, rfl, by decide +kernel, by decide +kernel, by decide +kernel, by decide +kernel, rfl⟩
set_option maxRecDepth 100000 in
theorem cl_X10_init_32 : CIN mX10_init 32 mX5_init 0 := ⟨gX10_init_X5_init_n32, by decide +kernel, by decide +kernel, by decide +kernel, by decide +kernel, rfl, ⟨⟨_, rfl⟩, by decide +kernel, by decide⟩⟩
set_option maxRecDepth 100000 in
theorem fa_X10_init_33 : FA mX10_init 33 10 3 "LScanRing$Sorter;" true := ⟨RX10, TX10, 6, rfl, by decide, by decide +kernel, by decide +kernel, rfl, rfl, rfl, fun _ _ => rfl⟩
set_option maxRecDepth 100000 in
theorem fn_X10_init_37 : FN mX10_init 37 3 := ⟨RX3, TX3, 4, rfl, by decide +kernel, by decide +kernel, by decide +kernel, by decide +kernel, rfl⟩
set_option maxRecDepth 100000 in
theorem cl_X10_init_39 : CI mX10_init 39 mX3_init 0 := ⟨gX10_init_X3_init, by decide +kernel, by decide +kernel, by decide +kernel, by decide +kernel, rfl, ⟨⟨_, rfl⟩, by decide +kernel, by decide⟩⟩
set_option maxRecDepth 100000 in
theorem fa_X10_init_40 : FA mX10_init 40 10 4 "LScanRing$Setup;" true := ⟨RX10, TX10, 6, rfl, by decide, by decide +kernel, by decide +kernel, rfl, rfl, rfl, fun _ _ => rfl⟩
set_option maxRecDepth 100000 in
theorem fn_X10_init_44 : FN mX10_init 44 9 := ⟨RX9, TX9, 4, rfl, by decide +kernel, by decide +kernel, by decide +kernel, by decide +kernel, rfl⟩
set_option maxRecDepth 100000 in
theorem cl_X10_init_46 : CIN mX10_init 46 mX9_init 0 := ⟨gX10_init_X9_init_n46, by decide +kernel, by decide +kernel, by decide +kernel, by decide +kernel, rfl, ⟨⟨_, rfl⟩, by decide +kernel, by decide⟩⟩
set_option maxRecDepth 100000 in
theorem fa_X10_init_47 : FA mX10_init 47 10 5 "LScanRing$TextReader;" true := ⟨RX10, TX10, 6, rfl, by decide, by decide +kernel, by decide +kernel, rfl, rfl, rfl, fun _ _ => rfl⟩
abbrev mX10_isChannel : MD := (yX10_isChannel, cX10_isChannel, 1, (some .boolean), wsX10_isChannel, ({ frames := 1, cells := 0, slots := 0, locals := 22 } : Room))
set_option maxRecDepth 100000 in
theorem cl_X10_isChannel_81 : CS mX10_isChannel 81 mX10_isWithin 3 := ⟨gX10_isChannel_X10_isWithin, ⟨⟨_, rfl⟩, by decide +kernel, by decide⟩⟩
abbrev mX10_isSource : MD := (yX10_isSource, cX10_isSource, 4, (some .boolean), wsX10_isSource, ({ frames := 1, cells := 0, slots := 0, locals := 22 } : Room))
set_option maxRecDepth 100000 in
theorem cl_X10_isSource_81 : CS mX10_isSource 81 mX10_isWithin 3 := ⟨gX10_isSource_X10_isWithin, ⟨⟨_, rfl⟩, by decide +kernel, by decide⟩⟩
abbrev mX10_setSource : MD := (yX10_setSource, cX10_setSource, 7, (some .int), wsX10_setSource, ({ frames := 6, cells := 0, slots := 0, locals := 132 } : Room))
set_option maxRecDepth 100000 in
theorem cl_X10_setSource_51 : CS mX10_setSource 51 mX10_isChannel 1 := ⟨gX10_setSource_X10_isChannel, ⟨⟨_, rfl⟩, by decide +kernel, by decide⟩⟩
set_option maxRecDepth 100000 in
theorem cl_X10_setSource_55 : CS mX10_setSource 55 mX10_isSource 4 := ⟨gX10_setSource_X10_isSource, ⟨⟨_, rfl⟩, by decide +kernel, by decide⟩⟩
set_option maxRecDepth 100000 in
theorem kc_X10_setSource_59 : Cond.constant mX10_setSource.1.cls 59 (-10000001) ∈ y_ws mX10_setSource := by decide +kernel
set_option maxRecDepth 100000 in
theorem fa_X10_setSource_19 : FA mX10_setSource 19 10 1 "LScanRing$History;" true := ⟨RX10, TX10, 6, rfl, by decide, by decide +kernel, by decide +kernel, rfl, rfl, rfl, fun _ h => absurd h (by decide +kernel)⟩
set_option maxRecDepth 100000 in
theorem fa_X10_setSource_10 : FA mX10_setSource 10 10 0 "LScanRing$State;" true := ⟨RX10, TX10, 6, rfl, by decide, by decide +kernel, by decide +kernel, rfl, rfl, rfl, fun _ h => absurd h (by decide +kernel)⟩
set_option maxRecDepth 100000 in
theorem cl_X10_setSource_60 : CV mX10_setSource 60 mX1_keep 1 := ⟨gX10_setSource_X1_keep, ⟨⟨_, rfl⟩, by decide +kernel, by decide⟩⟩
set_option maxRecDepth 100000 in
theorem fa_X10_setSource_64 : FA mX10_setSource 64 6 0 "LScanRing$Setup;" true := ⟨RX6, TX6, 7, rfl, by decide, by decide +kernel, by decide +kernel, rfl, rfl, rfl, fun _ h => absurd h (by decide +kernel)⟩
set_option maxRecDepth 100000 in
theorem fa_X10_setSource_67 : FA mX10_setSource 67 3 0 "LScanRing$Table;" true := ⟨RX3, TX3, 4, rfl, by decide, by decide +kernel, by decide +kernel, rfl, rfl, rfl, fun _ h => absurd h (by decide +kernel)⟩
set_option maxRecDepth 100000 in
theorem cl_X10_setSource_71 : CV mX10_setSource 71 mX7_at 2 := ⟨gX10_setSource_X7_at, ⟨⟨_, rfl⟩, by decide +kernel, by decide⟩⟩
set_option maxRecDepth 100000 in
theorem cl_X10_setSource_77 : CV mX10_setSource 77 mX3_putSource 5 := ⟨gX10_setSource_X3_putSource, ⟨⟨_, rfl⟩, by decide +kernel, by decide⟩⟩
abbrev mX10_setResistance : MD := (yX10_setResistance, cX10_setResistance, 4, (some .int), wsX10_setResistance, ({ frames := 6, cells := 0, slots := 0, locals := 132 } : Room))
set_option maxRecDepth 100000 in
theorem cl_X10_setResistance_51 : CS mX10_setResistance 51 mX10_isChannel 1 := ⟨gX10_setResistance_X10_isChannel, ⟨⟨_, rfl⟩, by decide +kernel, by decide⟩⟩
set_option maxRecDepth 100000 in
theorem cl_X10_setResistance_81 : CS mX10_setResistance 81 mX10_isWithin 3 := ⟨gX10_setResistance_X10_isWithin, ⟨⟨_, rfl⟩, by decide +kernel, by decide⟩⟩
set_option maxRecDepth 100000 in
theorem kc_X10_setResistance_59 : Cond.constant mX10_setResistance.1.cls 59 (-10000001) ∈ y_ws mX10_setResistance := by decide +kernel
set_option maxRecDepth 100000 in
theorem fa_X10_setResistance_19 : FA mX10_setResistance 19 10 1 "LScanRing$History;" true := ⟨RX10, TX10, 6, rfl, by decide, by decide +kernel, by decide +kernel, rfl, rfl, rfl, fun _ h => absurd h (by decide +kernel)⟩
set_option maxRecDepth 100000 in
theorem fa_X10_setResistance_10 : FA mX10_setResistance 10 10 0 "LScanRing$State;" true := ⟨RX10, TX10, 6, rfl, by decide, by decide +kernel, by decide +kernel, rfl, rfl, rfl, fun _ h => absurd h (by decide +kernel)⟩
set_option maxRecDepth 100000 in
theorem cl_X10_setResistance_60 : CV mX10_setResistance 60 mX1_keep 1 := ⟨gX10_setResistance_X1_keep, ⟨⟨_, rfl⟩, by decide +kernel, by decide⟩⟩
set_option maxRecDepth 100000 in
theorem fa_X10_setResistance_64 : FA mX10_setResistance 64 6 0 "LScanRing$Setup;" true := ⟨RX6, TX6, 7, rfl, by decide, by decide +kernel, by decide +kernel, rfl, rfl, rfl, fun _ h => absurd h (by decide +kernel)⟩
set_option maxRecDepth 100000 in
theorem fa_X10_setResistance_67 : FA mX10_setResistance 67 3 0 "LScanRing$Table;" true := ⟨RX3, TX3, 4, rfl, by decide, by decide +kernel, by decide +kernel, rfl, rfl, rfl, fun _ h => absurd h (by decide +kernel)⟩
set_option maxRecDepth 100000 in
theorem cl_X10_setResistance_71 : CV mX10_setResistance 71 mX7_at 2 := ⟨gX10_setResistance_X7_at, ⟨⟨_, rfl⟩, by decide +kernel, by decide⟩⟩
set_option maxRecDepth 100000 in
theorem cl_X10_setResistance_85 : CV mX10_setResistance 85 mX7_put 3 := ⟨gX10_setResistance_X7_put, ⟨⟨_, rfl⟩, by decide +kernel, by decide⟩⟩
abbrev mX10_isSetting : MD := (yX10_isSetting, cX10_isSetting, 2, (some .boolean), wsX10_isSetting, ({ frames := 1, cells := 0, slots := 0, locals := 22 } : Room))
set_option maxRecDepth 100000 in
theorem cl_X10_isSetting_81 : CS mX10_isSetting 81 mX10_isWithin 3 := ⟨gX10_isSetting_X10_isWithin, ⟨⟨_, rfl⟩, by decide +kernel, by decide⟩⟩
abbrev mX10_set : MD := (yX10_set, cX10_set, 4, (some .int), wsX10_set, ({ frames := 6, cells := 0, slots := 0, locals := 132 } : Room))
set_option maxRecDepth 100000 in
theorem cl_X10_set_89 : CS mX10_set 89 mX10_isSetting 2 := ⟨gX10_set_X10_isSetting, ⟨⟨_, rfl⟩, by decide +kernel, by decide⟩⟩
set_option maxRecDepth 100000 in
theorem kc_X10_set_59 : Cond.constant mX10_set.1.cls 59 (-10000001) ∈ y_ws mX10_set := by decide +kernel
set_option maxRecDepth 100000 in
theorem fa_X10_set_19 : FA mX10_set 19 10 1 "LScanRing$History;" true := ⟨RX10, TX10, 6, rfl, by decide, by decide +kernel, by decide +kernel, rfl, rfl, rfl, fun _ h => absurd h (by decide +kernel)⟩
set_option maxRecDepth 100000 in
theorem fa_X10_set_10 : FA mX10_set 10 10 0 "LScanRing$State;" true := ⟨RX10, TX10, 6, rfl, by decide, by decide +kernel, by decide +kernel, rfl, rfl, rfl, fun _ h => absurd h (by decide +kernel)⟩
set_option maxRecDepth 100000 in
theorem cl_X10_set_60 : CV mX10_set 60 mX1_keep 1 := ⟨gX10_set_X1_keep, ⟨⟨_, rfl⟩, by decide +kernel, by decide⟩⟩
set_option maxRecDepth 100000 in
theorem fa_X10_set_64 : FA mX10_set 64 6 0 "LScanRing$Setup;" true := ⟨RX6, TX6, 7, rfl, by decide, by decide +kernel, by decide +kernel, rfl, rfl, rfl, fun _ h => absurd h (by decide +kernel)⟩
set_option maxRecDepth 100000 in
theorem cl_X10_set_93 : CV mX10_set 93 mX3_setting 1 := ⟨gX10_set_X3_setting, ⟨⟨_, rfl⟩, by decide +kernel, by decide⟩⟩
set_option maxRecDepth 100000 in
theorem fa_X10_set_97 : FA mX10_set 97 3 2 "LScanRing$Table;" true := ⟨RX3, TX3, 4, rfl, by decide, by decide +kernel, by decide +kernel, rfl, rfl, rfl, fun _ h => absurd h (by decide +kernel)⟩
set_option maxRecDepth 100000 in
theorem cl_X10_set_85 : CV mX10_set 85 mX7_put 3 := ⟨gX10_set_X7_put, ⟨⟨_, rfl⟩, by decide +kernel, by decide⟩⟩
abbrev mX10_isSettle : MD := (yX10_isSettle, cX10_isSettle, 1, (some .boolean), wsX10_isSettle, ({ frames := 1, cells := 0, slots := 0, locals := 22 } : Room))
set_option maxRecDepth 100000 in
theorem cl_X10_isSettle_81 : CS mX10_isSettle 81 mX10_isWithin 3 := ⟨gX10_isSettle_X10_isWithin, ⟨⟨_, rfl⟩, by decide +kernel, by decide⟩⟩
abbrev mX10_addEntry : MD := (yX10_addEntry, cX10_addEntry, 5, (some .int), wsX10_addEntry, ({ frames := 6, cells := 0, slots := 0, locals := 132 } : Room))
set_option maxRecDepth 100000 in
theorem fa_X10_addEntry_10 : FA mX10_addEntry 10 10 0 "LScanRing$State;" true := ⟨RX10, TX10, 6, rfl, by decide, by decide +kernel, by decide +kernel, rfl, rfl, rfl, fun _ h => absurd h (by decide +kernel)⟩
set_option maxRecDepth 100000 in
theorem fa_X10_addEntry_64 : FA mX10_addEntry 64 6 0 "LScanRing$Setup;" true := ⟨RX6, TX6, 7, rfl, by decide, by decide +kernel, by decide +kernel, rfl, rfl, rfl, fun _ h => absurd h (by decide +kernel)⟩
set_option maxRecDepth 100000 in
theorem fa_X10_addEntry_100 : FA mX10_addEntry 100 3 3 "I" false := ⟨RX3, TX3, 4, rfl, by decide, by decide +kernel, by decide +kernel, rfl, rfl, rfl, fun h => by cases h⟩
set_option maxRecDepth 100000 in
theorem cl_X10_addEntry_81 : CS mX10_addEntry 81 mX10_isWithin 3 := ⟨gX10_addEntry_X10_isWithin, ⟨⟨_, rfl⟩, by decide +kernel, by decide⟩⟩
set_option maxRecDepth 100000 in
theorem cl_X10_addEntry_104 : CS mX10_addEntry 104 mX10_isSettle 1 := ⟨gX10_addEntry_X10_isSettle, ⟨⟨_, rfl⟩, by decide +kernel, by decide⟩⟩
set_option maxRecDepth 100000 in
theorem kc_X10_addEntry_59 : Cond.constant mX10_addEntry.1.cls 59 (-10000001) ∈ y_ws mX10_addEntry := by decide +kernel
set_option maxRecDepth 100000 in
theorem kc_X10_addEntry_107 : Cond.constant mX10_addEntry.1.cls 107 (-10000003) ∈ y_ws mX10_addEntry := by decide +kernel
set_option maxRecDepth 100000 in
theorem fa_X10_addEntry_19 : FA mX10_addEntry 19 10 1 "LScanRing$History;" true := ⟨RX10, TX10, 6, rfl, by decide, by decide +kernel, by decide +kernel, rfl, rfl, rfl, fun _ h => absurd h (by decide +kernel)⟩
set_option maxRecDepth 100000 in
theorem cl_X10_addEntry_60 : CV mX10_addEntry 60 mX1_keep 1 := ⟨gX10_addEntry_X1_keep, ⟨⟨_, rfl⟩, by decide +kernel, by decide⟩⟩
set_option maxRecDepth 100000 in
theorem cl_X10_addEntry_108 : CV mX10_addEntry 108 mX3_insert 3 := ⟨gX10_addEntry_X3_insert, ⟨⟨_, rfl⟩, by decide +kernel, by decide⟩⟩
abbrev mX10_isEntry : MD := (yX10_isEntry, cX10_isEntry, 2, (some .boolean), wsX10_isEntry, ({ frames := 1, cells := 0, slots := 0, locals := 22 } : Room))
set_option maxRecDepth 100000 in
theorem fa_X10_isEntry_10 : FA mX10_isEntry 10 10 0 "LScanRing$State;" true := ⟨RX10, TX10, 6, rfl, by decide, by decide +kernel, by decide +kernel, rfl, rfl, rfl, fun _ h => absurd h (by decide +kernel)⟩
set_option maxRecDepth 100000 in
theorem fa_X10_isEntry_64 : FA mX10_isEntry 64 6 0 "LScanRing$Setup;" true := ⟨RX6, TX6, 7, rfl, by decide, by decide +kernel, by decide +kernel, rfl, rfl, rfl, fun _ h => absurd h (by decide +kernel)⟩
set_option maxRecDepth 100000 in
theorem fa_X10_isEntry_100 : FA mX10_isEntry 100 3 3 "I" false := ⟨RX3, TX3, 4, rfl, by decide, by decide +kernel, by decide +kernel, rfl, rfl, rfl, fun h => by cases h⟩
set_option maxRecDepth 100000 in
theorem cl_X10_isEntry_81 : CS mX10_isEntry 81 mX10_isWithin 3 := ⟨gX10_isEntry_X10_isWithin, ⟨⟨_, rfl⟩, by decide +kernel, by decide⟩⟩
abbrev mX10_removeEntry : MD := (yX10_removeEntry, cX10_removeEntry, 2, (some .int), wsX10_removeEntry, ({ frames := 6, cells := 0, slots := 0, locals := 132 } : Room))
set_option maxRecDepth 100000 in
theorem cl_X10_removeEntry_111 : CV mX10_removeEntry 111 mX10_isEntry 1 := ⟨gX10_removeEntry_X10_isEntry, ⟨⟨_, rfl⟩, by decide +kernel, by decide⟩⟩
set_option maxRecDepth 100000 in
theorem kc_X10_removeEntry_59 : Cond.constant mX10_removeEntry.1.cls 59 (-10000001) ∈ y_ws mX10_removeEntry := by decide +kernel
set_option maxRecDepth 100000 in
theorem fa_X10_removeEntry_19 : FA mX10_removeEntry 19 10 1 "LScanRing$History;" true := ⟨RX10, TX10, 6, rfl, by decide, by decide +kernel, by decide +kernel, rfl, rfl, rfl, fun _ h => absurd h (by decide +kernel)⟩
set_option maxRecDepth 100000 in
theorem fa_X10_removeEntry_10 : FA mX10_removeEntry 10 10 0 "LScanRing$State;" true := ⟨RX10, TX10, 6, rfl, by decide, by decide +kernel, by decide +kernel, rfl, rfl, rfl, fun _ h => absurd h (by decide +kernel)⟩
set_option maxRecDepth 100000 in
theorem cl_X10_removeEntry_60 : CV mX10_removeEntry 60 mX1_keep 1 := ⟨gX10_removeEntry_X1_keep, ⟨⟨_, rfl⟩, by decide +kernel, by decide⟩⟩
set_option maxRecDepth 100000 in
theorem fa_X10_removeEntry_64 : FA mX10_removeEntry 64 6 0 "LScanRing$Setup;" true := ⟨RX6, TX6, 7, rfl, by decide, by decide +kernel, by decide +kernel, rfl, rfl, rfl, fun _ h => absurd h (by decide +kernel)⟩
set_option maxRecDepth 100000 in
theorem cl_X10_removeEntry_114 : CV mX10_removeEntry 114 mX3_removeAt 1 := ⟨gX10_removeEntry_X3_removeAt, ⟨⟨_, rfl⟩, by decide +kernel, by decide⟩⟩
set_option maxRecDepth 100000 in
theorem fa_X10_removeEntry_100 : FA mX10_removeEntry 100 3 3 "I" false := ⟨RX3, TX3, 4, rfl, by decide, by decide +kernel, by decide +kernel, rfl, rfl, rfl, fun h => by cases h⟩
abbrev mX10_setSettle : MD := (yX10_setSettle, cX10_setSettle, 4, (some .int), wsX10_setSettle, ({ frames := 6, cells := 0, slots := 0, locals := 132 } : Room))
set_option maxRecDepth 100000 in
theorem cl_X10_setSettle_111 : CV mX10_setSettle 111 mX10_isEntry 1 := ⟨gX10_setSettle_X10_isEntry, ⟨⟨_, rfl⟩, by decide +kernel, by decide⟩⟩
set_option maxRecDepth 100000 in
theorem cl_X10_setSettle_104 : CS mX10_setSettle 104 mX10_isSettle 1 := ⟨gX10_setSettle_X10_isSettle, ⟨⟨_, rfl⟩, by decide +kernel, by decide⟩⟩
set_option maxRecDepth 100000 in
theorem kc_X10_setSettle_59 : Cond.constant mX10_setSettle.1.cls 59 (-10000001) ∈ y_ws mX10_setSettle := by decide +kernel
set_option maxRecDepth 100000 in
theorem fa_X10_setSettle_19 : FA mX10_setSettle 19 10 1 "LScanRing$History;" true := ⟨RX10, TX10, 6, rfl, by decide, by decide +kernel, by decide +kernel, rfl, rfl, rfl, fun _ h => absurd h (by decide +kernel)⟩
set_option maxRecDepth 100000 in
theorem fa_X10_setSettle_10 : FA mX10_setSettle 10 10 0 "LScanRing$State;" true := ⟨RX10, TX10, 6, rfl, by decide, by decide +kernel, by decide +kernel, rfl, rfl, rfl, fun _ h => absurd h (by decide +kernel)⟩
set_option maxRecDepth 100000 in
theorem cl_X10_setSettle_60 : CV mX10_setSettle 60 mX1_keep 1 := ⟨gX10_setSettle_X1_keep, ⟨⟨_, rfl⟩, by decide +kernel, by decide⟩⟩
set_option maxRecDepth 100000 in
theorem fa_X10_setSettle_64 : FA mX10_setSettle 64 6 0 "LScanRing$Setup;" true := ⟨RX6, TX6, 7, rfl, by decide, by decide +kernel, by decide +kernel, rfl, rfl, rfl, fun _ h => absurd h (by decide +kernel)⟩
set_option maxRecDepth 100000 in
theorem fa_X10_setSettle_118 : FA mX10_setSettle 118 3 1 "LScanRing$Table;" true := ⟨RX3, TX3, 4, rfl, by decide, by decide +kernel, by decide +kernel, rfl, rfl, rfl, fun _ h => absurd h (by decide +kernel)⟩
set_option maxRecDepth 100000 in
theorem cl_X10_setSettle_71 : CV mX10_setSettle 71 mX7_at 2 := ⟨gX10_setSettle_X7_at, ⟨⟨_, rfl⟩, by decide +kernel, by decide⟩⟩
set_option maxRecDepth 100000 in
theorem cl_X10_setSettle_85 : CV mX10_setSettle 85 mX7_put 3 := ⟨gX10_setSettle_X7_put, ⟨⟨_, rfl⟩, by decide +kernel, by decide⟩⟩
abbrev mX10_order : MD := (yX10_order, cX10_order, 2, (some .int), wsX10_order, ({ frames := 6, cells := 0, slots := 0, locals := 132 } : Room))
set_option maxRecDepth 100000 in
theorem cl_X10_order_81 : CS mX10_order 81 mX10_isWithin 3 := ⟨gX10_order_X10_isWithin, ⟨⟨_, rfl⟩, by decide +kernel, by decide⟩⟩
set_option maxRecDepth 100000 in
theorem kc_X10_order_59 : Cond.constant mX10_order.1.cls 59 (-10000001) ∈ y_ws mX10_order := by decide +kernel
set_option maxRecDepth 100000 in
theorem fa_X10_order_19 : FA mX10_order 19 10 1 "LScanRing$History;" true := ⟨RX10, TX10, 6, rfl, by decide, by decide +kernel, by decide +kernel, rfl, rfl, rfl, fun _ h => absurd h (by decide +kernel)⟩
set_option maxRecDepth 100000 in
theorem fa_X10_order_10 : FA mX10_order 10 10 0 "LScanRing$State;" true := ⟨RX10, TX10, 6, rfl, by decide, by decide +kernel, by decide +kernel, rfl, rfl, rfl, fun _ h => absurd h (by decide +kernel)⟩
set_option maxRecDepth 100000 in
theorem cl_X10_order_60 : CV mX10_order 60 mX1_keep 1 := ⟨gX10_order_X1_keep, ⟨⟨_, rfl⟩, by decide +kernel, by decide⟩⟩
set_option maxRecDepth 100000 in
theorem fa_X10_order_33 : FA mX10_order 33 10 3 "LScanRing$Sorter;" true := ⟨RX10, TX10, 6, rfl, by decide, by decide +kernel, by decide +kernel, rfl, rfl, rfl, fun _ h => absurd h (by decide +kernel)⟩
set_option maxRecDepth 100000 in
theorem fa_X10_order_64 : FA mX10_order 64 6 0 "LScanRing$Setup;" true := ⟨RX6, TX6, 7, rfl, by decide, by decide +kernel, by decide +kernel, rfl, rfl, rfl, fun _ h => absurd h (by decide +kernel)⟩
set_option maxRecDepth 100000 in
theorem cl_X10_order_121 : CV mX10_order 121 mX6_time 0 := ⟨gX10_order_X6_time, ⟨⟨_, rfl⟩, by decide +kernel, by decide⟩⟩
set_option maxRecDepth 100000 in
theorem cl_X10_order_125 : CV mX10_order 125 mX5_arrange 3 := ⟨gX10_order_X5_arrange, ⟨⟨_, rfl⟩, by decide +kernel, by decide⟩⟩
abbrev mX10_scanOnce : MD := (yX10_scanOnce, cX10_scanOnce, 2, none, wsX10_scanOnce, ({ frames := 5, cells := 0, slots := 0, locals := 116 } : Room))
set_option maxRecDepth 100000 in
theorem fa_X10_scanOnce_10 : FA mX10_scanOnce 10 10 0 "LScanRing$State;" true := ⟨RX10, TX10, 6, rfl, by decide, by decide +kernel, by decide +kernel, rfl, rfl, rfl, fun _ h => absurd h (by decide +kernel)⟩
set_option maxRecDepth 100000 in
theorem fa_X10_scanOnce_64 : FA mX10_scanOnce 64 6 0 "LScanRing$Setup;" true := ⟨RX6, TX6, 7, rfl, by decide, by decide +kernel, by decide +kernel, rfl, rfl, rfl, fun _ h => absurd h (by decide +kernel)⟩
set_option maxRecDepth 100000 in
theorem fa_X10_scanOnce_100 : FA mX10_scanOnce 100 3 3 "I" false := ⟨RX3, TX3, 4, rfl, by decide, by decide +kernel, by decide +kernel, rfl, rfl, rfl, fun h => by cases h⟩
set_option maxRecDepth 100000 in
theorem fa_X10_scanOnce_26 : FA mX10_scanOnce 26 10 2 "LScanRing$Converter;" true := ⟨RX10, TX10, 6, rfl, by decide, by decide +kernel, by decide +kernel, rfl, rfl, rfl, fun _ h => absurd h (by decide +kernel)⟩
set_option maxRecDepth 100000 in
theorem cl_X10_scanOnce_266 : CV mX10_scanOnce 266 mX0_carryOutEntry 2 := ⟨gX10_scanOnce_X0_carryOutEntry, ⟨⟨_, rfl⟩, by decide +kernel, by decide⟩⟩
set_option maxRecDepth 100000 in
theorem fa_X10_scanOnce_118 : FA mX10_scanOnce 118 3 1 "LScanRing$Table;" true := ⟨RX3, TX3, 4, rfl, by decide, by decide +kernel, by decide +kernel, rfl, rfl, rfl, fun _ h => absurd h (by decide +kernel)⟩
set_option maxRecDepth 100000 in
theorem cl_X10_scanOnce_71 : CV mX10_scanOnce 71 mX7_at 2 := ⟨gX10_scanOnce_X7_at, ⟨⟨_, rfl⟩, by decide +kernel, by decide⟩⟩
set_option maxRecDepth 100000 in
theorem cl_X10_scanOnce_270 : CV mX10_scanOnce 270 mX3_slotsOfEntry 1 := ⟨gX10_scanOnce_X3_slotsOfEntry, ⟨⟨_, rfl⟩, by decide +kernel, by decide⟩⟩
set_option maxRecDepth 100000 in
theorem cl_X10_scanOnce_273 : CV mX10_scanOnce 273 mX6_book 3 := ⟨gX10_scanOnce_X6_book, ⟨⟨_, rfl⟩, by decide +kernel, by decide⟩⟩
abbrev mX10_scan : MD := (yX10_scan, cX10_scan, 4, (some .int), wsX10_scan, ({ frames := 6, cells := 0, slots := 0, locals := 137 } : Room))
set_option maxRecDepth 100000 in
theorem cl_X10_scan_81 : CS mX10_scan 81 mX10_isWithin 3 := ⟨gX10_scan_X10_isWithin, ⟨⟨_, rfl⟩, by decide +kernel, by decide⟩⟩
set_option maxRecDepth 100000 in
theorem kc_X10_scan_59 : Cond.constant mX10_scan.1.cls 59 (-10000001) ∈ y_ws mX10_scan := by decide +kernel
set_option maxRecDepth 100000 in
theorem fa_X10_scan_10 : FA mX10_scan 10 10 0 "LScanRing$State;" true := ⟨RX10, TX10, 6, rfl, by decide, by decide +kernel, by decide +kernel, rfl, rfl, rfl, fun _ h => absurd h (by decide +kernel)⟩
set_option maxRecDepth 100000 in
theorem fa_X10_scan_64 : FA mX10_scan 64 6 0 "LScanRing$Setup;" true := ⟨RX6, TX6, 7, rfl, by decide, by decide +kernel, by decide +kernel, rfl, rfl, rfl, fun _ h => absurd h (by decide +kernel)⟩
set_option maxRecDepth 100000 in
theorem fa_X10_scan_100 : FA mX10_scan 100 3 3 "I" false := ⟨RX3, TX3, 4, rfl, by decide, by decide +kernel, by decide +kernel, rfl, rfl, rfl, fun h => by cases h⟩
set_option maxRecDepth 100000 in
theorem kc_X10_scan_129 : Cond.constant mX10_scan.1.cls 129 (-10000002) ∈ y_ws mX10_scan := by decide +kernel
set_option maxRecDepth 100000 in
theorem cl_X10_scan_121 : CV mX10_scan 121 mX6_time 0 := ⟨gX10_scan_X6_time, ⟨⟨_, rfl⟩, by decide +kernel, by decide⟩⟩
set_option maxRecDepth 100000 in
theorem cl_X10_scan_130 : CV mX10_scan 130 mX3_slotsOfScan 0 := ⟨gX10_scan_X3_slotsOfScan, ⟨⟨_, rfl⟩, by decide +kernel, by decide⟩⟩
set_option maxRecDepth 100000 in
theorem kc_X10_scan_107 : Cond.constant mX10_scan.1.cls 107 (-10000003) ∈ y_ws mX10_scan := by decide +kernel
set_option maxRecDepth 100000 in
theorem fa_X10_scan_19 : FA mX10_scan 19 10 1 "LScanRing$History;" true := ⟨RX10, TX10, 6, rfl, by decide, by decide +kernel, by decide +kernel, rfl, rfl, rfl, fun _ h => absurd h (by decide +kernel)⟩
set_option maxRecDepth 100000 in
theorem cl_X10_scan_60 : CV mX10_scan 60 mX1_keep 1 := ⟨gX10_scan_X1_keep, ⟨⟨_, rfl⟩, by decide +kernel, by decide⟩⟩
set_option maxRecDepth 100000 in
theorem fa_X10_scan_133 : FA mX10_scan 133 6 3 "LScanRing$Table;" true := ⟨RX6, TX6, 7, rfl, by decide, by decide +kernel, by decide +kernel, rfl, rfl, rfl, fun _ h => absurd h (by decide +kernel)⟩
set_option maxRecDepth 100000 in
theorem cl_X10_scan_71 : CV mX10_scan 71 mX7_at 2 := ⟨gX10_scan_X7_at, ⟨⟨_, rfl⟩, by decide +kernel, by decide⟩⟩
set_option maxRecDepth 100000 in
theorem fa_X10_scan_26 : FA mX10_scan 26 10 2 "LScanRing$Converter;" true := ⟨RX10, TX10, 6, rfl, by decide, by decide +kernel, by decide +kernel, rfl, rfl, rfl, fun _ h => absurd h (by decide +kernel)⟩
set_option maxRecDepth 100000 in
theorem fa_X10_scan_136 : FA mX10_scan 136 6 6 "F" false := ⟨RX6, TX6, 7, rfl, by decide, by decide +kernel, by decide +kernel, rfl, rfl, rfl, fun h => by cases h⟩
set_option maxRecDepth 100000 in
theorem cl_X10_scan_140 : CV mX10_scan 140 mX0_start 2 := ⟨gX10_scan_X0_start, ⟨⟨_, rfl⟩, by decide +kernel, by decide⟩⟩
set_option maxRecDepth 100000 in
theorem cl_X10_scan_144 : CV mX10_scan 144 mX10_scanOnce 0 := ⟨gX10_scan_X10_scanOnce, ⟨⟨_, rfl⟩, by decide +kernel, by decide⟩⟩
abbrev mX10_pass : MD := (yX10_pass, cX10_pass, 2, (some .int), wsX10_pass, ({ frames := 6, cells := 0, slots := 0, locals := 132 } : Room))
set_option maxRecDepth 100000 in
theorem cl_X10_pass_81 : CS mX10_pass 81 mX10_isWithin 3 := ⟨gX10_pass_X10_isWithin, ⟨⟨_, rfl⟩, by decide +kernel, by decide⟩⟩
set_option maxRecDepth 100000 in
theorem kc_X10_pass_59 : Cond.constant mX10_pass.1.cls 59 (-10000001) ∈ y_ws mX10_pass := by decide +kernel
set_option maxRecDepth 100000 in
theorem fa_X10_pass_10 : FA mX10_pass 10 10 0 "LScanRing$State;" true := ⟨RX10, TX10, 6, rfl, by decide, by decide +kernel, by decide +kernel, rfl, rfl, rfl, fun _ h => absurd h (by decide +kernel)⟩
set_option maxRecDepth 100000 in
theorem cl_X10_pass_121 : CV mX10_pass 121 mX6_time 0 := ⟨gX10_pass_X6_time, ⟨⟨_, rfl⟩, by decide +kernel, by decide⟩⟩
set_option maxRecDepth 100000 in
theorem kc_X10_pass_107 : Cond.constant mX10_pass.1.cls 107 (-10000003) ∈ y_ws mX10_pass := by decide +kernel
set_option maxRecDepth 100000 in
theorem fa_X10_pass_19 : FA mX10_pass 19 10 1 "LScanRing$History;" true := ⟨RX10, TX10, 6, rfl, by decide, by decide +kernel, by decide +kernel, rfl, rfl, rfl, fun _ h => absurd h (by decide +kernel)⟩
set_option maxRecDepth 100000 in
theorem cl_X10_pass_60 : CV mX10_pass 60 mX1_keep 1 := ⟨gX10_pass_X1_keep, ⟨⟨_, rfl⟩, by decide +kernel, by decide⟩⟩
set_option maxRecDepth 100000 in
theorem cl_X10_pass_147 : CV mX10_pass 147 mX6_addTo 2 := ⟨gX10_pass_X6_addTo, ⟨⟨_, rfl⟩, by decide +kernel, by decide⟩⟩
abbrev mX10_isSnapshotPlace : MD := (yX10_isSnapshotPlace, cX10_isSnapshotPlace, 1, (some .boolean), wsX10_isSnapshotPlace, ({ frames := 1, cells := 0, slots := 0, locals := 22 } : Room))
set_option maxRecDepth 100000 in
theorem cl_X10_isSnapshotPlace_81 : CS mX10_isSnapshotPlace 81 mX10_isWithin 3 := ⟨gX10_isSnapshotPlace_X10_isWithin, ⟨⟨_, rfl⟩, by decide +kernel, by decide⟩⟩
abbrev mX10_take : MD := (yX10_take, cX10_take, 3, (some .int), wsX10_take, ({ frames := 6, cells := 0, slots := 0, locals := 132 } : Room))
set_option maxRecDepth 100000 in
theorem cl_X10_take_151 : CS mX10_take 151 mX10_isSnapshotPlace 1 := ⟨gX10_take_X10_isSnapshotPlace, ⟨⟨_, rfl⟩, by decide +kernel, by decide⟩⟩
set_option maxRecDepth 100000 in
theorem kc_X10_take_59 : Cond.constant mX10_take.1.cls 59 (-10000001) ∈ y_ws mX10_take := by decide +kernel
set_option maxRecDepth 100000 in
theorem fa_X10_take_19 : FA mX10_take 19 10 1 "LScanRing$History;" true := ⟨RX10, TX10, 6, rfl, by decide, by decide +kernel, by decide +kernel, rfl, rfl, rfl, fun _ h => absurd h (by decide +kernel)⟩
set_option maxRecDepth 100000 in
theorem fa_X10_take_10 : FA mX10_take 10 10 0 "LScanRing$State;" true := ⟨RX10, TX10, 6, rfl, by decide, by decide +kernel, by decide +kernel, rfl, rfl, rfl, fun _ h => absurd h (by decide +kernel)⟩
set_option maxRecDepth 100000 in
theorem cl_X10_take_60 : CV mX10_take 60 mX1_keep 1 := ⟨gX10_take_X1_keep, ⟨⟨_, rfl⟩, by decide +kernel, by decide⟩⟩
set_option maxRecDepth 100000 in
theorem cl_X10_take_154 : CV mX10_take 154 mX6_snapshotAt 1 := ⟨gX10_take_X6_snapshotAt, ⟨⟨_, rfl⟩, by decide +kernel, by decide⟩⟩
set_option maxRecDepth 100000 in
theorem fa_X10_take_158 : FA mX10_take 158 4 1 "Z" false := ⟨RX4, TX4, 2, rfl, by decide, by decide +kernel, by decide +kernel, rfl, rfl, rfl, fun h => by cases h⟩
set_option maxRecDepth 100000 in
theorem fa_X10_take_164 : FA mX10_take 164 4 0 "LScanRing$Setup;" true := ⟨RX4, TX4, 2, rfl, by decide, by decide +kernel, by decide +kernel, rfl, rfl, rfl, fun _ h => absurd h (by decide +kernel)⟩
set_option maxRecDepth 100000 in
theorem fa_X10_take_64 : FA mX10_take 64 6 0 "LScanRing$Setup;" true := ⟨RX6, TX6, 7, rfl, by decide, by decide +kernel, by decide +kernel, rfl, rfl, rfl, fun _ h => absurd h (by decide +kernel)⟩
set_option maxRecDepth 100000 in
theorem cl_X10_take_165 : CV mX10_take 165 mX3_copyFrom 1 := ⟨gX10_take_X3_copyFrom, ⟨⟨_, rfl⟩, by decide +kernel, by decide⟩⟩
set_option maxRecDepth 100000 in
theorem fa_X10_take_100 : FA mX10_take 100 3 3 "I" false := ⟨RX3, TX3, 4, rfl, by decide, by decide +kernel, by decide +kernel, rfl, rfl, rfl, fun h => by cases h⟩
abbrev mX10_restore : MD := (yX10_restore, cX10_restore, 3, (some .int), wsX10_restore, ({ frames := 6, cells := 0, slots := 0, locals := 132 } : Room))
set_option maxRecDepth 100000 in
theorem cl_X10_restore_151 : CS mX10_restore 151 mX10_isSnapshotPlace 1 := ⟨gX10_restore_X10_isSnapshotPlace, ⟨⟨_, rfl⟩, by decide +kernel, by decide⟩⟩
set_option maxRecDepth 100000 in
theorem kc_X10_restore_59 : Cond.constant mX10_restore.1.cls 59 (-10000001) ∈ y_ws mX10_restore := by decide +kernel
set_option maxRecDepth 100000 in
theorem fa_X10_restore_10 : FA mX10_restore 10 10 0 "LScanRing$State;" true := ⟨RX10, TX10, 6, rfl, by decide, by decide +kernel, by decide +kernel, rfl, rfl, rfl, fun _ h => absurd h (by decide +kernel)⟩
set_option maxRecDepth 100000 in
theorem cl_X10_restore_154 : CV mX10_restore 154 mX6_snapshotAt 1 := ⟨gX10_restore_X6_snapshotAt, ⟨⟨_, rfl⟩, by decide +kernel, by decide⟩⟩
set_option maxRecDepth 100000 in
theorem fa_X10_restore_158 : FA mX10_restore 158 4 1 "Z" false := ⟨RX4, TX4, 2, rfl, by decide, by decide +kernel, by decide +kernel, rfl, rfl, rfl, fun h => by cases h⟩
set_option maxRecDepth 100000 in
theorem kc_X10_restore_129 : Cond.constant mX10_restore.1.cls 129 (-10000002) ∈ y_ws mX10_restore := by decide +kernel
set_option maxRecDepth 100000 in
theorem fa_X10_restore_19 : FA mX10_restore 19 10 1 "LScanRing$History;" true := ⟨RX10, TX10, 6, rfl, by decide, by decide +kernel, by decide +kernel, rfl, rfl, rfl, fun _ h => absurd h (by decide +kernel)⟩
set_option maxRecDepth 100000 in
theorem cl_X10_restore_60 : CV mX10_restore 60 mX1_keep 1 := ⟨gX10_restore_X1_keep, ⟨⟨_, rfl⟩, by decide +kernel, by decide⟩⟩
set_option maxRecDepth 100000 in
theorem fa_X10_restore_64 : FA mX10_restore 64 6 0 "LScanRing$Setup;" true := ⟨RX6, TX6, 7, rfl, by decide, by decide +kernel, by decide +kernel, rfl, rfl, rfl, fun _ h => absurd h (by decide +kernel)⟩
set_option maxRecDepth 100000 in
theorem fa_X10_restore_164 : FA mX10_restore 164 4 0 "LScanRing$Setup;" true := ⟨RX4, TX4, 2, rfl, by decide, by decide +kernel, by decide +kernel, rfl, rfl, rfl, fun _ h => absurd h (by decide +kernel)⟩
set_option maxRecDepth 100000 in
theorem cl_X10_restore_165 : CV mX10_restore 165 mX3_copyFrom 1 := ⟨gX10_restore_X3_copyFrom, ⟨⟨_, rfl⟩, by decide +kernel, by decide⟩⟩
set_option maxRecDepth 100000 in
theorem fa_X10_restore_100 : FA mX10_restore 100 3 3 "I" false := ⟨RX3, TX3, 4, rfl, by decide, by decide +kernel, by decide +kernel, rfl, rfl, rfl, fun h => by cases h⟩
abbrev mX10_undo : MD := (yX10_undo, cX10_undo, 1, (some .int), wsX10_undo, ({ frames := 6, cells := 0, slots := 0, locals := 133 } : Room))
set_option maxRecDepth 100000 in
theorem fa_X10_undo_19 : FA mX10_undo 19 10 1 "LScanRing$History;" true := ⟨RX10, TX10, 6, rfl, by decide, by decide +kernel, by decide +kernel, rfl, rfl, rfl, fun _ h => absurd h (by decide +kernel)⟩
set_option maxRecDepth 100000 in
theorem fa_X10_undo_169 : FA mX10_undo 169 1 2 "I" false := ⟨RX1, TX1, 3, rfl, by decide, by decide +kernel, by decide +kernel, rfl, rfl, rfl, fun h => by cases h⟩
set_option maxRecDepth 100000 in
theorem kc_X10_undo_129 : Cond.constant mX10_undo.1.cls 129 (-10000002) ∈ y_ws mX10_undo := by decide +kernel
set_option maxRecDepth 100000 in
theorem fa_X10_undo_10 : FA mX10_undo 10 10 0 "LScanRing$State;" true := ⟨RX10, TX10, 6, rfl, by decide, by decide +kernel, by decide +kernel, rfl, rfl, rfl, fun _ h => absurd h (by decide +kernel)⟩
set_option maxRecDepth 100000 in
theorem cl_X10_undo_172 : CV mX10_undo 172 mX1_bringBack 1 := ⟨gX10_undo_X1_bringBack, ⟨⟨_, rfl⟩, by decide +kernel, by decide⟩⟩
abbrev mX10_load : MD := (yX10_load, cX10_load, 2, (some .int), wsX10_load, ({ frames := 6, cells := 0, slots := 0, locals := 139 } : Room))
set_option maxRecDepth 100000 in
theorem fa_X10_load_47 : FA mX10_load 47 10 5 "LScanRing$TextReader;" true := ⟨RX10, TX10, 6, rfl, by decide, by decide +kernel, by decide +kernel, rfl, rfl, rfl, fun _ h => absurd h (by decide +kernel)⟩
set_option maxRecDepth 100000 in
theorem fa_X10_load_10 : FA mX10_load 10 10 0 "LScanRing$State;" true := ⟨RX10, TX10, 6, rfl, by decide, by decide +kernel, by decide +kernel, rfl, rfl, rfl, fun _ h => absurd h (by decide +kernel)⟩
set_option maxRecDepth 100000 in
theorem fa_X10_load_64 : FA mX10_load 64 6 0 "LScanRing$Setup;" true := ⟨RX6, TX6, 7, rfl, by decide, by decide +kernel, by decide +kernel, rfl, rfl, rfl, fun _ h => absurd h (by decide +kernel)⟩
set_option maxRecDepth 100000 in
theorem cl_X10_load_187 : CV mX10_load 187 mX9_readItems 1 := ⟨gX10_load_X9_readItems, ⟨⟨_, rfl⟩, by decide +kernel, by decide⟩⟩
set_option maxRecDepth 100000 in
theorem cl_X10_load_191 : CV mX10_load 191 mX9_hasFailed 0 := ⟨gX10_load_X9_hasFailed, ⟨⟨_, rfl⟩, by decide +kernel, by decide⟩⟩
set_option maxRecDepth 100000 in
theorem kc_X10_load_195 : Cond.constant mX10_load.1.cls 195 (-20000000) ∈ y_ws mX10_load := by decide +kernel
set_option maxRecDepth 100000 in
theorem fa_X10_load_196 : FA mX10_load 196 9 3 "I" false := ⟨RX9, TX9, 4, rfl, by decide, by decide +kernel, by decide +kernel, rfl, rfl, rfl, fun h => by cases h⟩
set_option maxRecDepth 100000 in
theorem fa_X10_load_19 : FA mX10_load 19 10 1 "LScanRing$History;" true := ⟨RX10, TX10, 6, rfl, by decide, by decide +kernel, by decide +kernel, rfl, rfl, rfl, fun _ h => absurd h (by decide +kernel)⟩
set_option maxRecDepth 100000 in
theorem cl_X10_load_60 : CV mX10_load 60 mX1_keep 1 := ⟨gX10_load_X1_keep, ⟨⟨_, rfl⟩, by decide +kernel, by decide⟩⟩
set_option maxRecDepth 100000 in
theorem fa_X10_load_199 : FA mX10_load 199 9 1 "LScanRing$Setup;" true := ⟨RX9, TX9, 4, rfl, by decide, by decide +kernel, by decide +kernel, rfl, rfl, rfl, fun _ h => absurd h (by decide +kernel)⟩
set_option maxRecDepth 100000 in
theorem cl_X10_load_165 : CV mX10_load 165 mX3_copyFrom 1 := ⟨gX10_load_X3_copyFrom, ⟨⟨_, rfl⟩, by decide +kernel, by decide⟩⟩
set_option maxRecDepth 100000 in
theorem fa_X10_load_175 : FA mX10_load 175 9 0 "LScanRing$Text;" true := ⟨RX9, TX9, 4, rfl, by decide, by decide +kernel, by decide +kernel, rfl, rfl, rfl, fun _ h => absurd h (by decide +kernel)⟩
set_option maxRecDepth 100000 in
theorem fa_X10_load_179 : FA mX10_load 179 8 1 "I" false := ⟨RX8, TX8, 2, rfl, by decide, by decide +kernel, by decide +kernel, rfl, rfl, rfl, fun h => by cases h⟩
abbrev mX10_count : MD := (yX10_count, cX10_count, 2, (some .int), wsX10_count, ({ frames := 3, cells := 0, slots := 0, locals := 66 } : Room))
set_option maxRecDepth 100000 in
theorem fa_X10_count_10 : FA mX10_count 10 10 0 "LScanRing$State;" true := ⟨RX10, TX10, 6, rfl, by decide, by decide +kernel, by decide +kernel, rfl, rfl, rfl, fun _ h => absurd h (by decide +kernel)⟩
set_option maxRecDepth 100000 in
theorem cl_X10_count_121 : CV mX10_count 121 mX6_time 0 := ⟨gX10_count_X6_time, ⟨⟨_, rfl⟩, by decide +kernel, by decide⟩⟩
set_option maxRecDepth 100000 in
theorem fa_X10_count_64 : FA mX10_count 64 6 0 "LScanRing$Setup;" true := ⟨RX6, TX6, 7, rfl, by decide, by decide +kernel, by decide +kernel, rfl, rfl, rfl, fun _ h => absurd h (by decide +kernel)⟩
set_option maxRecDepth 100000 in
theorem fa_X10_count_100 : FA mX10_count 100 3 3 "I" false := ⟨RX3, TX3, 4, rfl, by decide, by decide +kernel, by decide +kernel, rfl, rfl, rfl, fun h => by cases h⟩
set_option maxRecDepth 100000 in
theorem cl_X10_count_93 : CV mX10_count 93 mX3_setting 1 := ⟨gX10_count_X3_setting, ⟨⟨_, rfl⟩, by decide +kernel, by decide⟩⟩
set_option maxRecDepth 100000 in
theorem fa_X10_count_200 : FA mX10_count 200 6 1 "LScanRing$Log;" true := ⟨RX6, TX6, 7, rfl, by decide, by decide +kernel, by decide +kernel, rfl, rfl, rfl, fun _ h => absurd h (by decide +kernel)⟩
set_option maxRecDepth 100000 in
theorem fa_X10_count_204 : FA mX10_count 204 2 2 "I" false := ⟨RX2, TX2, 3, rfl, by decide, by decide +kernel, by decide +kernel, rfl, rfl, rfl, fun h => by cases h⟩
set_option maxRecDepth 100000 in
theorem cl_X10_count_207 : CV mX10_count 207 mX6_snapshotsTaken 0 := ⟨gX10_count_X6_snapshotsTaken, ⟨⟨_, rfl⟩, by decide +kernel, by decide⟩⟩
set_option maxRecDepth 100000 in
theorem cl_X10_count_130 : CV mX10_count 130 mX3_slotsOfScan 0 := ⟨gX10_count_X3_slotsOfScan, ⟨⟨_, rfl⟩, by decide +kernel, by decide⟩⟩
set_option maxRecDepth 100000 in
theorem fa_X10_count_19 : FA mX10_count 19 10 1 "LScanRing$History;" true := ⟨RX10, TX10, 6, rfl, by decide, by decide +kernel, by decide +kernel, rfl, rfl, rfl, fun _ h => absurd h (by decide +kernel)⟩
set_option maxRecDepth 100000 in
theorem fa_X10_count_169 : FA mX10_count 169 1 2 "I" false := ⟨RX1, TX1, 3, rfl, by decide, by decide +kernel, by decide +kernel, rfl, rfl, rfl, fun h => by cases h⟩
set_option maxRecDepth 100000 in
theorem fa_X10_count_47 : FA mX10_count 47 10 5 "LScanRing$TextReader;" true := ⟨RX10, TX10, 6, rfl, by decide, by decide +kernel, by decide +kernel, rfl, rfl, rfl, fun _ h => absurd h (by decide +kernel)⟩
set_option maxRecDepth 100000 in
theorem fa_X10_count_175 : FA mX10_count 175 9 0 "LScanRing$Text;" true := ⟨RX9, TX9, 4, rfl, by decide, by decide +kernel, by decide +kernel, rfl, rfl, rfl, fun _ h => absurd h (by decide +kernel)⟩
set_option maxRecDepth 100000 in
theorem fa_X10_count_179 : FA mX10_count 179 8 1 "I" false := ⟨RX8, TX8, 2, rfl, by decide, by decide +kernel, by decide +kernel, rfl, rfl, rfl, fun h => by cases h⟩
set_option maxRecDepth 100000 in
theorem cl_X10_count_210 : CV mX10_count 210 mX3_sourcesOf 1 := ⟨gX10_count_X3_sourcesOf, ⟨⟨_, rfl⟩, by decide +kernel, by decide⟩⟩
set_option maxRecDepth 100000 in
theorem kc_X10_count_59 : Cond.constant mX10_count.1.cls 59 (-10000001) ∈ y_ws mX10_count := by decide +kernel
abbrev mX10_channel : MD := (yX10_channel, cX10_channel, 3, (some .int), wsX10_channel, ({ frames := 3, cells := 0, slots := 0, locals := 68 } : Room))
set_option maxRecDepth 100000 in
theorem cl_X10_channel_51 : CS mX10_channel 51 mX10_isChannel 1 := ⟨gX10_channel_X10_isChannel, ⟨⟨_, rfl⟩, by decide +kernel, by decide⟩⟩
set_option maxRecDepth 100000 in
theorem cl_X10_channel_81 : CS mX10_channel 81 mX10_isWithin 3 := ⟨gX10_channel_X10_isWithin, ⟨⟨_, rfl⟩, by decide +kernel, by decide⟩⟩
set_option maxRecDepth 100000 in
theorem kc_X10_channel_59 : Cond.constant mX10_channel.1.cls 59 (-10000001) ∈ y_ws mX10_channel := by decide +kernel
set_option maxRecDepth 100000 in
theorem fa_X10_channel_10 : FA mX10_channel 10 10 0 "LScanRing$State;" true := ⟨RX10, TX10, 6, rfl, by decide, by decide +kernel, by decide +kernel, rfl, rfl, rfl, fun _ h => absurd h (by decide +kernel)⟩
set_option maxRecDepth 100000 in
theorem fa_X10_channel_213 : FA mX10_channel 213 6 2 "LScanRing$Table;" true := ⟨RX6, TX6, 7, rfl, by decide, by decide +kernel, by decide +kernel, rfl, rfl, rfl, fun _ h => absurd h (by decide +kernel)⟩
set_option maxRecDepth 100000 in
theorem cl_X10_channel_71 : CV mX10_channel 71 mX7_at 2 := ⟨gX10_channel_X7_at, ⟨⟨_, rfl⟩, by decide +kernel, by decide⟩⟩
set_option maxRecDepth 100000 in
theorem cl_X10_channel_216 : CV mX10_channel 216 mX6_correctedReading 1 := ⟨gX10_channel_X6_correctedReading, ⟨⟨_, rfl⟩, by decide +kernel, by decide⟩⟩
set_option maxRecDepth 100000 in
theorem fa_X10_channel_64 : FA mX10_channel 64 6 0 "LScanRing$Setup;" true := ⟨RX6, TX6, 7, rfl, by decide, by decide +kernel, by decide +kernel, rfl, rfl, rfl, fun _ h => absurd h (by decide +kernel)⟩
set_option maxRecDepth 100000 in
theorem cl_X10_channel_219 : CV mX10_channel 219 mX3_entriesOf 1 := ⟨gX10_channel_X3_entriesOf, ⟨⟨_, rfl⟩, by decide +kernel, by decide⟩⟩
set_option maxRecDepth 100000 in
theorem fa_X10_channel_67 : FA mX10_channel 67 3 0 "LScanRing$Table;" true := ⟨RX3, TX3, 4, rfl, by decide, by decide +kernel, by decide +kernel, rfl, rfl, rfl, fun _ h => absurd h (by decide +kernel)⟩
abbrev mX10_entry : MD := (yX10_entry, cX10_entry, 3, (some .int), wsX10_entry, ({ frames := 2, cells := 0, slots := 0, locals := 43 } : Room))
set_option maxRecDepth 100000 in
theorem cl_X10_entry_81 : CS mX10_entry 81 mX10_isWithin 3 := ⟨gX10_entry_X10_isWithin, ⟨⟨_, rfl⟩, by decide +kernel, by decide⟩⟩
set_option maxRecDepth 100000 in
theorem kc_X10_entry_59 : Cond.constant mX10_entry.1.cls 59 (-10000001) ∈ y_ws mX10_entry := by decide +kernel
set_option maxRecDepth 100000 in
theorem cl_X10_entry_111 : CV mX10_entry 111 mX10_isEntry 1 := ⟨gX10_entry_X10_isEntry, ⟨⟨_, rfl⟩, by decide +kernel, by decide⟩⟩
set_option maxRecDepth 100000 in
theorem fa_X10_entry_10 : FA mX10_entry 10 10 0 "LScanRing$State;" true := ⟨RX10, TX10, 6, rfl, by decide, by decide +kernel, by decide +kernel, rfl, rfl, rfl, fun _ h => absurd h (by decide +kernel)⟩
set_option maxRecDepth 100000 in
theorem fa_X10_entry_64 : FA mX10_entry 64 6 0 "LScanRing$Setup;" true := ⟨RX6, TX6, 7, rfl, by decide, by decide +kernel, by decide +kernel, rfl, rfl, rfl, fun _ h => absurd h (by decide +kernel)⟩
set_option maxRecDepth 100000 in
theorem fa_X10_entry_118 : FA mX10_entry 118 3 1 "LScanRing$Table;" true := ⟨RX3, TX3, 4, rfl, by decide, by decide +kernel, by decide +kernel, rfl, rfl, rfl, fun _ h => absurd h (by decide +kernel)⟩
set_option maxRecDepth 100000 in
theorem cl_X10_entry_71 : CV mX10_entry 71 mX7_at 2 := ⟨gX10_entry_X7_at, ⟨⟨_, rfl⟩, by decide +kernel, by decide⟩⟩
set_option maxRecDepth 100000 in
theorem kc_X10_entry_222 : Cond.constant mX10_entry.1.cls 222 (-10000009) ∈ y_ws mX10_entry := by decide +kernel
abbrev mX10_value : MD := (yX10_value, cX10_value, 3, (some .int), wsX10_value, ({ frames := 3, cells := 0, slots := 0, locals := 68 } : Room))
set_option maxRecDepth 100000 in
theorem cl_X10_value_51 : CS mX10_value 51 mX10_isChannel 1 := ⟨gX10_value_X10_isChannel, ⟨⟨_, rfl⟩, by decide +kernel, by decide⟩⟩
set_option maxRecDepth 100000 in
theorem cl_X10_value_81 : CS mX10_value 81 mX10_isWithin 3 := ⟨gX10_value_X10_isWithin, ⟨⟨_, rfl⟩, by decide +kernel, by decide⟩⟩
set_option maxRecDepth 100000 in
theorem kc_X10_value_59 : Cond.constant mX10_value.1.cls 59 (-10000001) ∈ y_ws mX10_value := by decide +kernel
set_option maxRecDepth 100000 in
theorem fa_X10_value_10 : FA mX10_value 10 10 0 "LScanRing$State;" true := ⟨RX10, TX10, 6, rfl, by decide, by decide +kernel, by decide +kernel, rfl, rfl, rfl, fun _ h => absurd h (by decide +kernel)⟩
set_option maxRecDepth 100000 in
theorem fa_X10_value_64 : FA mX10_value 64 6 0 "LScanRing$Setup;" true := ⟨RX6, TX6, 7, rfl, by decide, by decide +kernel, by decide +kernel, rfl, rfl, rfl, fun _ h => absurd h (by decide +kernel)⟩
set_option maxRecDepth 100000 in
theorem cl_X10_value_223 : CV mX10_value 223 mX3_valueAt 2 := ⟨gX10_value_X3_valueAt, ⟨⟨_, rfl⟩, by decide +kernel, by decide⟩⟩
abbrev mX10_sample : MD := (yX10_sample, cX10_sample, 3, (some .int), wsX10_sample, ({ frames := 2, cells := 0, slots := 0, locals := 45 } : Room))
set_option maxRecDepth 100000 in
theorem cl_X10_sample_81 : CS mX10_sample 81 mX10_isWithin 3 := ⟨gX10_sample_X10_isWithin, ⟨⟨_, rfl⟩, by decide +kernel, by decide⟩⟩
set_option maxRecDepth 100000 in
theorem kc_X10_sample_59 : Cond.constant mX10_sample.1.cls 59 (-10000001) ∈ y_ws mX10_sample := by decide +kernel
set_option maxRecDepth 100000 in
theorem fa_X10_sample_10 : FA mX10_sample 10 10 0 "LScanRing$State;" true := ⟨RX10, TX10, 6, rfl, by decide, by decide +kernel, by decide +kernel, rfl, rfl, rfl, fun _ h => absurd h (by decide +kernel)⟩
set_option maxRecDepth 100000 in
theorem fa_X10_sample_200 : FA mX10_sample 200 6 1 "LScanRing$Log;" true := ⟨RX6, TX6, 7, rfl, by decide, by decide +kernel, by decide +kernel, rfl, rfl, rfl, fun _ h => absurd h (by decide +kernel)⟩
set_option maxRecDepth 100000 in
theorem fa_X10_sample_204 : FA mX10_sample 204 2 2 "I" false := ⟨RX2, TX2, 3, rfl, by decide, by decide +kernel, by decide +kernel, rfl, rfl, rfl, fun h => by cases h⟩
set_option maxRecDepth 100000 in
theorem cl_X10_sample_226 : CV mX10_sample 226 mX2_part 2 := ⟨gX10_sample_X2_part, ⟨⟨_, rfl⟩, by decide +kernel, by decide⟩⟩
set_option maxRecDepth 100000 in
theorem kc_X10_sample_222 : Cond.constant mX10_sample.1.cls 222 (-10000009) ∈ y_ws mX10_sample := by decide +kernel
abbrev mX10_account : MD := (yX10_account, cX10_account, 2, (some .int), wsX10_account, ({ frames := 2, cells := 0, slots := 0, locals := 43 } : Room))
set_option maxRecDepth 100000 in
theorem fa_X10_account_10 : FA mX10_account 10 10 0 "LScanRing$State;" true := ⟨RX10, TX10, 6, rfl, by decide, by decide +kernel, by decide +kernel, rfl, rfl, rfl, fun _ h => absurd h (by decide +kernel)⟩
set_option maxRecDepth 100000 in
theorem cl_X10_account_121 : CV mX10_account 121 mX6_time 0 := ⟨gX10_account_X6_time, ⟨⟨_, rfl⟩, by decide +kernel, by decide⟩⟩
set_option maxRecDepth 100000 in
theorem cl_X10_account_81 : CS mX10_account 81 mX10_isWithin 3 := ⟨gX10_account_X10_isWithin, ⟨⟨_, rfl⟩, by decide +kernel, by decide⟩⟩
set_option maxRecDepth 100000 in
theorem fa_X10_account_133 : FA mX10_account 133 6 3 "LScanRing$Table;" true := ⟨RX6, TX6, 7, rfl, by decide, by decide +kernel, by decide +kernel, rfl, rfl, rfl, fun _ h => absurd h (by decide +kernel)⟩
set_option maxRecDepth 100000 in
theorem cl_X10_account_71 : CV mX10_account 71 mX7_at 2 := ⟨gX10_account_X7_at, ⟨⟨_, rfl⟩, by decide +kernel, by decide⟩⟩
set_option maxRecDepth 100000 in
theorem kc_X10_account_59 : Cond.constant mX10_account.1.cls 59 (-10000001) ∈ y_ws mX10_account := by decide +kernel
abbrev mX10_held : MD := (yX10_held, cX10_held, 2, (some .int), wsX10_held, ({ frames := 3, cells := 0, slots := 0, locals := 65 } : Room))
set_option maxRecDepth 100000 in
theorem fa_X10_held_10 : FA mX10_held 10 10 0 "LScanRing$State;" true := ⟨RX10, TX10, 6, rfl, by decide, by decide +kernel, by decide +kernel, rfl, rfl, rfl, fun _ h => absurd h (by decide +kernel)⟩
set_option maxRecDepth 100000 in
theorem fa_X10_held_136 : FA mX10_held 136 6 6 "F" false := ⟨RX6, TX6, 7, rfl, by decide, by decide +kernel, by decide +kernel, rfl, rfl, rfl, fun h => by cases h⟩
set_option maxRecDepth 100000 in
theorem fa_X10_held_64 : FA mX10_held 64 6 0 "LScanRing$Setup;" true := ⟨RX6, TX6, 7, rfl, by decide, by decide +kernel, by decide +kernel, rfl, rfl, rfl, fun _ h => absurd h (by decide +kernel)⟩
set_option maxRecDepth 100000 in
theorem cl_X10_held_229 : CV mX10_held 229 mX3_readingOf 1 := ⟨gX10_held_X3_readingOf, ⟨⟨_, rfl⟩, by decide +kernel, by decide⟩⟩
set_option maxRecDepth 100000 in
theorem kc_X10_held_233 : Cond.constantFloat mX10_held.1.cls 233 (1132462080) ∈ y_ws mX10_held := by decide +kernel
set_option maxRecDepth 100000 in
theorem kc_X10_held_59 : Cond.constant mX10_held.1.cls 59 (-10000001) ∈ y_ws mX10_held := by decide +kernel
abbrev mX10_tryEntries : MD := (yX10_tryEntries, cX10_tryEntries, 5, (some .int), wsX10_tryEntries, ({ frames := 5, cells := 0, slots := 0, locals := 116 } : Room))
set_option maxRecDepth 100000 in
theorem fa_X10_tryEntries_26 : FA mX10_tryEntries 26 10 2 "LScanRing$Converter;" true := ⟨RX10, TX10, 6, rfl, by decide, by decide +kernel, by decide +kernel, rfl, rfl, rfl, fun _ h => absurd h (by decide +kernel)⟩
set_option maxRecDepth 100000 in
theorem fa_X10_tryEntries_10 : FA mX10_tryEntries 10 10 0 "LScanRing$State;" true := ⟨RX10, TX10, 6, rfl, by decide, by decide +kernel, by decide +kernel, rfl, rfl, rfl, fun _ h => absurd h (by decide +kernel)⟩
set_option maxRecDepth 100000 in
theorem fa_X10_tryEntries_136 : FA mX10_tryEntries 136 6 6 "F" false := ⟨RX6, TX6, 7, rfl, by decide, by decide +kernel, by decide +kernel, rfl, rfl, rfl, fun h => by cases h⟩
set_option maxRecDepth 100000 in
theorem cl_X10_tryEntries_121 : CV mX10_tryEntries 121 mX6_time 0 := ⟨gX10_tryEntries_X6_time, ⟨⟨_, rfl⟩, by decide +kernel, by decide⟩⟩
set_option maxRecDepth 100000 in
theorem cl_X10_tryEntries_140 : CV mX10_tryEntries 140 mX0_start 2 := ⟨gX10_tryEntries_X0_start, ⟨⟨_, rfl⟩, by decide +kernel, by decide⟩⟩
set_option maxRecDepth 100000 in
theorem cl_X10_tryEntries_266 : CV mX10_tryEntries 266 mX0_carryOutEntry 2 := ⟨gX10_tryEntries_X0_carryOutEntry, ⟨⟨_, rfl⟩, by decide +kernel, by decide⟩⟩
set_option maxRecDepth 100000 in
theorem fa_X10_tryEntries_241 : FA mX10_tryEntries 241 0 3 "I" false := ⟨RX0, TX0, 5, rfl, by decide, by decide +kernel, by decide +kernel, rfl, rfl, rfl, fun h => by cases h⟩
set_option maxRecDepth 100000 in
theorem wm_X10_tryEntries_261 : WM mX10_tryEntries 261 Lib.Math.abs.name Lib.Math.abs.code 1 := ⟨by decide +kernel, by decide +kernel, by decide +kernel, by decide +kernel, by decide, by decide⟩
abbrev mX10_would : MD := (yX10_would, cX10_would, 3, (some .int), wsX10_would, ({ frames := 6, cells := 0, slots := 0, locals := 140 } : Room))
set_option maxRecDepth 100000 in
theorem cl_X10_would_111 : CV mX10_would 111 mX10_isEntry 1 := ⟨gX10_would_X10_isEntry, ⟨⟨_, rfl⟩, by decide +kernel, by decide⟩⟩
set_option maxRecDepth 100000 in
theorem cl_X10_would_81 : CS mX10_would 81 mX10_isWithin 3 := ⟨gX10_would_X10_isWithin, ⟨⟨_, rfl⟩, by decide +kernel, by decide⟩⟩
set_option maxRecDepth 100000 in
theorem kc_X10_would_59 : Cond.constant mX10_would.1.cls 59 (-10000001) ∈ y_ws mX10_would := by decide +kernel
set_option maxRecDepth 100000 in
theorem fa_X10_would_10 : FA mX10_would 10 10 0 "LScanRing$State;" true := ⟨RX10, TX10, 6, rfl, by decide, by decide +kernel, by decide +kernel, rfl, rfl, rfl, fun _ h => absurd h (by decide +kernel)⟩
set_option maxRecDepth 100000 in
theorem fa_X10_would_64 : FA mX10_would 64 6 0 "LScanRing$Setup;" true := ⟨RX6, TX6, 7, rfl, by decide, by decide +kernel, by decide +kernel, rfl, rfl, rfl, fun _ h => absurd h (by decide +kernel)⟩
set_option maxRecDepth 100000 in
theorem cl_X10_would_234 : CV mX10_would 234 mX10_tryEntries 2 := ⟨gX10_would_X10_tryEntries, ⟨⟨_, rfl⟩, by decide +kernel, by decide⟩⟩
set_option maxRecDepth 100000 in
theorem fa_X10_would_26 : FA mX10_would 26 10 2 "LScanRing$Converter;" true := ⟨RX10, TX10, 6, rfl, by decide, by decide +kernel, by decide +kernel, rfl, rfl, rfl, fun _ h => absurd h (by decide +kernel)⟩
set_option maxRecDepth 100000 in
theorem fa_X10_would_238 : FA mX10_would 238 0 2 "I" false := ⟨RX0, TX0, 5, rfl, by decide, by decide +kernel, by decide +kernel, rfl, rfl, rfl, fun h => by cases h⟩
set_option maxRecDepth 100000 in
theorem fa_X10_would_241 : FA mX10_would 241 0 3 "I" false := ⟨RX0, TX0, 5, rfl, by decide, by decide +kernel, by decide +kernel, rfl, rfl, rfl, fun h => by cases h⟩
set_option maxRecDepth 100000 in
theorem cl_X10_would_244 : CV mX10_would 244 mX0_error 0 := ⟨gX10_would_X0_error, ⟨⟨_, rfl⟩, by decide +kernel, by decide⟩⟩
abbrev mX10_why : MD := (yX10_why, cX10_why, 2, (some .int), wsX10_why, ({ frames := 6, cells := 0, slots := 0, locals := 140 } : Room))
set_option maxRecDepth 100000 in
theorem cl_X10_why_111 : CV mX10_why 111 mX10_isEntry 1 := ⟨gX10_why_X10_isEntry, ⟨⟨_, rfl⟩, by decide +kernel, by decide⟩⟩
set_option maxRecDepth 100000 in
theorem kc_X10_why_59 : Cond.constant mX10_why.1.cls 59 (-10000001) ∈ y_ws mX10_why := by decide +kernel
set_option maxRecDepth 100000 in
theorem fa_X10_why_10 : FA mX10_why 10 10 0 "LScanRing$State;" true := ⟨RX10, TX10, 6, rfl, by decide, by decide +kernel, by decide +kernel, rfl, rfl, rfl, fun _ h => absurd h (by decide +kernel)⟩
set_option maxRecDepth 100000 in
theorem fa_X10_why_64 : FA mX10_why 64 6 0 "LScanRing$Setup;" true := ⟨RX6, TX6, 7, rfl, by decide, by decide +kernel, by decide +kernel, rfl, rfl, rfl, fun _ h => absurd h (by decide +kernel)⟩
set_option maxRecDepth 100000 in
theorem cl_X10_why_234 : CV mX10_why 234 mX10_tryEntries 2 := ⟨gX10_why_X10_tryEntries, ⟨⟨_, rfl⟩, by decide +kernel, by decide⟩⟩
set_option maxRecDepth 100000 in
theorem fa_X10_why_26 : FA mX10_why 26 10 2 "LScanRing$Converter;" true := ⟨RX10, TX10, 6, rfl, by decide, by decide +kernel, by decide +kernel, rfl, rfl, rfl, fun _ h => absurd h (by decide +kernel)⟩
set_option maxRecDepth 100000 in
theorem cl_X10_why_244 : CV mX10_why 244 mX0_error 0 := ⟨gX10_why_X0_error, ⟨⟨_, rfl⟩, by decide +kernel, by decide⟩⟩
set_option maxRecDepth 100000 in
theorem fa_X10_why_241 : FA mX10_why 241 0 3 "I" false := ⟨RX0, TX0, 5, rfl, by decide, by decide +kernel, by decide +kernel, rfl, rfl, rfl, fun h => by cases h⟩
set_option maxRecDepth 100000 in
theorem fa_X10_why_247 : FA mX10_why 247 0 0 "F" false := ⟨RX0, TX0, 5, rfl, by decide, by decide +kernel, by decide +kernel, rfl, rfl, rfl, fun h => by cases h⟩
set_option maxRecDepth 100000 in
theorem cl_X10_why_248 : CS mX10_why 248 mX10_readingWith 3 := ⟨gX10_why_X10_readingWith, ⟨⟨_, rfl⟩, by decide +kernel, by decide⟩⟩
set_option maxRecDepth 100000 in
theorem fa_X10_why_252 : FA mX10_why 252 0 4 "I" false := ⟨RX0, TX0, 5, rfl, by decide, by decide +kernel, by decide +kernel, rfl, rfl, rfl, fun h => by cases h⟩
abbrev mX10_settleFor : MD := (yX10_settleFor, cX10_settleFor, 7, (some .int), wsX10_settleFor, ({ frames := 6, cells := 0, slots := 0, locals := 140 } : Room))
set_option maxRecDepth 100000 in
theorem cl_X10_settleFor_111 : CV mX10_settleFor 111 mX10_isEntry 1 := ⟨gX10_settleFor_X10_isEntry, ⟨⟨_, rfl⟩, by decide +kernel, by decide⟩⟩
set_option maxRecDepth 100000 in
theorem cl_X10_settleFor_81 : CS mX10_settleFor 81 mX10_isWithin 3 := ⟨gX10_settleFor_X10_isWithin, ⟨⟨_, rfl⟩, by decide +kernel, by decide⟩⟩
set_option maxRecDepth 100000 in
theorem kc_X10_settleFor_59 : Cond.constant mX10_settleFor.1.cls 59 (-10000001) ∈ y_ws mX10_settleFor := by decide +kernel
set_option maxRecDepth 100000 in
theorem fa_X10_settleFor_10 : FA mX10_settleFor 10 10 0 "LScanRing$State;" true := ⟨RX10, TX10, 6, rfl, by decide, by decide +kernel, by decide +kernel, rfl, rfl, rfl, fun _ h => absurd h (by decide +kernel)⟩
set_option maxRecDepth 100000 in
theorem fa_X10_settleFor_64 : FA mX10_settleFor 64 6 0 "LScanRing$Setup;" true := ⟨RX6, TX6, 7, rfl, by decide, by decide +kernel, by decide +kernel, rfl, rfl, rfl, fun _ h => absurd h (by decide +kernel)⟩
set_option maxRecDepth 100000 in
theorem cl_X10_settleFor_234 : CV mX10_settleFor 234 mX10_tryEntries 2 := ⟨gX10_settleFor_X10_tryEntries, ⟨⟨_, rfl⟩, by decide +kernel, by decide⟩⟩
set_option maxRecDepth 100000 in
theorem fa_X10_settleFor_26 : FA mX10_settleFor 26 10 2 "LScanRing$Converter;" true := ⟨RX10, TX10, 6, rfl, by decide, by decide +kernel, by decide +kernel, rfl, rfl, rfl, fun _ h => absurd h (by decide +kernel)⟩
set_option maxRecDepth 100000 in
theorem fa_X10_settleFor_247 : FA mX10_settleFor 247 0 0 "F" false := ⟨RX0, TX0, 5, rfl, by decide, by decide +kernel, by decide +kernel, rfl, rfl, rfl, fun h => by cases h⟩
set_option maxRecDepth 100000 in
theorem fa_X10_settleFor_255 : FA mX10_settleFor 255 0 1 "I" false := ⟨RX0, TX0, 5, rfl, by decide, by decide +kernel, by decide +kernel, rfl, rfl, rfl, fun h => by cases h⟩
set_option maxRecDepth 100000 in
theorem fa_X10_settleFor_118 : FA mX10_settleFor 118 3 1 "LScanRing$Table;" true := ⟨RX3, TX3, 4, rfl, by decide, by decide +kernel, by decide +kernel, rfl, rfl, rfl, fun _ h => absurd h (by decide +kernel)⟩
set_option maxRecDepth 100000 in
theorem cl_X10_settleFor_71 : CV mX10_settleFor 71 mX7_at 2 := ⟨gX10_settleFor_X7_at, ⟨⟨_, rfl⟩, by decide +kernel, by decide⟩⟩
set_option maxRecDepth 100000 in
theorem cl_X10_settleFor_140 : CV mX10_settleFor 140 mX0_start 2 := ⟨gX10_settleFor_X0_start, ⟨⟨_, rfl⟩, by decide +kernel, by decide⟩⟩
set_option maxRecDepth 100000 in
theorem cl_X10_settleFor_257 : CV mX10_settleFor 257 mX0_carryOut 3 := ⟨gX10_settleFor_X0_carryOut, ⟨⟨_, rfl⟩, by decide +kernel, by decide⟩⟩
set_option maxRecDepth 100000 in
theorem cl_X10_settleFor_244 : CV mX10_settleFor 244 mX0_error 0 := ⟨gX10_settleFor_X0_error, ⟨⟨_, rfl⟩, by decide +kernel, by decide⟩⟩
set_option maxRecDepth 100000 in
theorem wm_X10_settleFor_261 : WM mX10_settleFor 261 Lib.Math.abs.name Lib.Math.abs.code 1 := ⟨by decide +kernel, by decide +kernel, by decide +kernel, by decide +kernel, by decide, by decide⟩
set_option maxRecDepth 100000 in
theorem kc_X10_settleFor_222 : Cond.constant mX10_settleFor.1.cls 222 (-10000009) ∈ y_ws mX10_settleFor := by decide +kernel
abbrev mX10_bestRule : MD := (yX10_bestRule, cX10_bestRule, 5, (some .int), wsX10_bestRule, ({ frames := 6, cells := 0, slots := 0, locals := 140 } : Room))
set_option maxRecDepth 100000 in
theorem fa_X10_bestRule_10 : FA mX10_bestRule 10 10 0 "LScanRing$State;" true := ⟨RX10, TX10, 6, rfl, by decide, by decide +kernel, by decide +kernel, rfl, rfl, rfl, fun _ h => absurd h (by decide +kernel)⟩
set_option maxRecDepth 100000 in
theorem fa_X10_bestRule_64 : FA mX10_bestRule 64 6 0 "LScanRing$Setup;" true := ⟨RX6, TX6, 7, rfl, by decide, by decide +kernel, by decide +kernel, rfl, rfl, rfl, fun _ h => absurd h (by decide +kernel)⟩
set_option maxRecDepth 100000 in
theorem fa_X10_bestRule_100 : FA mX10_bestRule 100 3 3 "I" false := ⟨RX3, TX3, 4, rfl, by decide, by decide +kernel, by decide +kernel, rfl, rfl, rfl, fun h => by cases h⟩
set_option maxRecDepth 100000 in
theorem cl_X10_bestRule_234 : CV mX10_bestRule 234 mX10_tryEntries 2 := ⟨gX10_bestRule_X10_tryEntries, ⟨⟨_, rfl⟩, by decide +kernel, by decide⟩⟩
set_option maxRecDepth 100000 in
theorem fa_X10_bestRule_40 : FA mX10_bestRule 40 10 4 "LScanRing$Setup;" true := ⟨RX10, TX10, 6, rfl, by decide, by decide +kernel, by decide +kernel, rfl, rfl, rfl, fun _ h => absurd h (by decide +kernel)⟩
set_option maxRecDepth 100000 in
theorem cl_X10_bestRule_165 : CV mX10_bestRule 165 mX3_copyFrom 1 := ⟨gX10_bestRule_X3_copyFrom, ⟨⟨_, rfl⟩, by decide +kernel, by decide⟩⟩
set_option maxRecDepth 100000 in
theorem fa_X10_bestRule_33 : FA mX10_bestRule 33 10 3 "LScanRing$Sorter;" true := ⟨RX10, TX10, 6, rfl, by decide, by decide +kernel, by decide +kernel, rfl, rfl, rfl, fun _ h => absurd h (by decide +kernel)⟩
set_option maxRecDepth 100000 in
theorem cl_X10_bestRule_121 : CV mX10_bestRule 121 mX6_time 0 := ⟨gX10_bestRule_X6_time, ⟨⟨_, rfl⟩, by decide +kernel, by decide⟩⟩
set_option maxRecDepth 100000 in
theorem cl_X10_bestRule_125 : CV mX10_bestRule 125 mX5_arrange 3 := ⟨gX10_bestRule_X5_arrange, ⟨⟨_, rfl⟩, by decide +kernel, by decide⟩⟩
abbrev mX10_groundsNeeded : MD := (yX10_groundsNeeded, cX10_groundsNeeded, 5, (some .int), wsX10_groundsNeeded, ({ frames := 5, cells := 0, slots := 0, locals := 116 } : Room))
set_option maxRecDepth 100000 in
theorem fa_X10_groundsNeeded_26 : FA mX10_groundsNeeded 26 10 2 "LScanRing$Converter;" true := ⟨RX10, TX10, 6, rfl, by decide, by decide +kernel, by decide +kernel, rfl, rfl, rfl, fun _ h => absurd h (by decide +kernel)⟩
set_option maxRecDepth 100000 in
theorem fa_X10_groundsNeeded_10 : FA mX10_groundsNeeded 10 10 0 "LScanRing$State;" true := ⟨RX10, TX10, 6, rfl, by decide, by decide +kernel, by decide +kernel, rfl, rfl, rfl, fun _ h => absurd h (by decide +kernel)⟩
set_option maxRecDepth 100000 in
theorem fa_X10_groundsNeeded_136 : FA mX10_groundsNeeded 136 6 6 "F" false := ⟨RX6, TX6, 7, rfl, by decide, by decide +kernel, by decide +kernel, rfl, rfl, rfl, fun h => by cases h⟩
set_option maxRecDepth 100000 in
theorem cl_X10_groundsNeeded_121 : CV mX10_groundsNeeded 121 mX6_time 0 := ⟨gX10_groundsNeeded_X6_time, ⟨⟨_, rfl⟩, by decide +kernel, by decide⟩⟩
set_option maxRecDepth 100000 in
theorem cl_X10_groundsNeeded_140 : CV mX10_groundsNeeded 140 mX0_start 2 := ⟨gX10_groundsNeeded_X0_start, ⟨⟨_, rfl⟩, by decide +kernel, by decide⟩⟩
set_option maxRecDepth 100000 in
theorem fa_X10_groundsNeeded_64 : FA mX10_groundsNeeded 64 6 0 "LScanRing$Setup;" true := ⟨RX6, TX6, 7, rfl, by decide, by decide +kernel, by decide +kernel, rfl, rfl, rfl, fun _ h => absurd h (by decide +kernel)⟩
set_option maxRecDepth 100000 in
theorem fa_X10_groundsNeeded_100 : FA mX10_groundsNeeded 100 3 3 "I" false := ⟨RX3, TX3, 4, rfl, by decide, by decide +kernel, by decide +kernel, rfl, rfl, rfl, fun h => by cases h⟩
set_option maxRecDepth 100000 in
theorem fa_X10_groundsNeeded_247 : FA mX10_groundsNeeded 247 0 0 "F" false := ⟨RX0, TX0, 5, rfl, by decide, by decide +kernel, by decide +kernel, rfl, rfl, rfl, fun h => by cases h⟩
set_option maxRecDepth 100000 in
theorem fa_X10_groundsNeeded_255 : FA mX10_groundsNeeded 255 0 1 "I" false := ⟨RX0, TX0, 5, rfl, by decide, by decide +kernel, by decide +kernel, rfl, rfl, rfl, fun h => by cases h⟩
set_option maxRecDepth 100000 in
theorem cl_X10_groundsNeeded_266 : CV mX10_groundsNeeded 266 mX0_carryOutEntry 2 := ⟨gX10_groundsNeeded_X0_carryOutEntry, ⟨⟨_, rfl⟩, by decide +kernel, by decide⟩⟩
set_option maxRecDepth 100000 in
theorem fa_X10_groundsNeeded_241 : FA mX10_groundsNeeded 241 0 3 "I" false := ⟨RX0, TX0, 5, rfl, by decide, by decide +kernel, by decide +kernel, rfl, rfl, rfl, fun h => by cases h⟩
set_option maxRecDepth 100000 in
theorem cl_X10_groundsNeeded_257 : CV mX10_groundsNeeded 257 mX0_carryOut 3 := ⟨gX10_groundsNeeded_X0_carryOut, ⟨⟨_, rfl⟩, by decide +kernel, by decide⟩⟩
