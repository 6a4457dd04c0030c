/-! FIXED FACTS of the methods: words, links, rooms (by program) -/
set_option maxRecDepth 100000 in
theorem zz_b_first : True := trivial
abbrev mX10_init : MD := (yX10_init, cX10_init, 1, none, wsX10_init, ({ frames := 6, cells := 206, slots := 16078, locals := 125 } : Room))
set_option maxRecDepth 100000 in
theorem ob_X10_init_1 : Cond.methodLink mX10_init.1.cls 1 objectInit ∈ y_ws mX10_init ∧ Cond.instanceMethod objectInit ∈ y_ws mX10_init ∧ Cond.code objectInit ⟨#[0xb1]⟩ 1 none ∈ y_ws mX10_init := ⟨by decide +kernel, by decide +kernel, by decide +kernel⟩
set_option maxRecDepth 100000 in
theorem fn_X10_init_7 : FN mX10_init 7 6 := ⟨RX6, TX6, 7, rfl, by decide +kernel, by decide +kernel, by decide +kernel, by decide +kernel, rfl⟩
set_option maxRecDepth 100000 in
theorem cl_X10_init_9 : CI mX10_init 9 mX6_init 0 := ⟨gX10_init_X6_init, by decide +kernel, by decide +kernel, by decide +kernel, by decide +kernel, rfl, ⟨⟨_, rfl⟩, by decide +kernel, by decide⟩⟩
set_option maxRecDepth 100000 in
theorem fa_X10_init_10 : FA mX10_init 10 10 0 "LScanRing$State;" true := ⟨RX10, TX10, 7, rfl, by decide, by decide +kernel, by decide +kernel, rfl, rfl, rfl, fun _ _ => rfl⟩
set_option maxRecDepth 100000 in
theorem fn_X10_init_16 : FN mX10_init 16 1 := ⟨RX1, TX1, 3, rfl, by decide +kernel, by decide +kernel, by decide +kernel, by decide +kernel, rfl⟩
set_option maxRecDepth 100000 in
theorem cl_X10_init_18 : CI mX10_init 18 mX1_init 0 := ⟨gX10_init_X1_init, by decide +kernel, by decide +kernel, by decide +kernel, by decide +kernel, rfl, ⟨⟨_, rfl⟩, by decide +kernel, by decide⟩⟩
set_option maxRecDepth 100000 in
theorem fa_X10_init_19 : FA mX10_init 19 10 1 "LScanRing$History;" true := ⟨RX10, TX10, 7, rfl, by decide, by decide +kernel, by decide +kernel, rfl, rfl, rfl, fun _ _ => rfl⟩
set_option maxRecDepth 100000 in
theorem fn_X10_init_23 : FN mX10_init 23 8 := ⟨RX8, TX8, 2, rfl, by decide +kernel, by decide +kernel, by decide +kernel, by decide +kernel, rfl⟩
set_option maxRecDepth 100000 in
theorem cl_X10_init_25 : CIN mX10_init 25 mX8_init 0 := ⟨gX10_init_X8_init_n25, by decide +kernel, by decide +kernel, by decide +kernel, by decide +kernel, rfl, ⟨⟨_, rfl⟩, by decide +kernel, by decide⟩⟩
set_option maxRecDepth 100000 in
theorem fa_X10_init_26 : FA mX10_init 26 10 2 "LScanRing$Text;" true := ⟨RX10, TX10, 7, rfl, by decide, by decide +kernel, by decide +kernel, rfl, rfl, rfl, fun _ _ => rfl⟩
set_option maxRecDepth 100000 in
theorem fn_X10_init_30 : FN mX10_init 30 0 := ⟨RX0, TX0, 5, rfl, by decide +kernel, by decide +kernel, by decide +kernel, by decide +kernel, rfl⟩
set_option maxRecDepth 100000 in
theorem cl_X10_init_32 : CIN mX10_init 32 mX0_init 0 := ⟨gX10_init_X0_init_n32, by decide +kernel, by decide +kernel, by decide +kernel, by decide +kernel, rfl, ⟨⟨_, rfl⟩, by decide +kernel, by decide⟩⟩
set_option maxRecDepth 100000 in
theorem fa_X10_init_33 : FA mX10_init 33 10 3 "LScanRing$Converter;" true := ⟨RX10, TX10, 7, rfl, by decide, by decide +kernel, by decide +kernel, rfl, rfl, rfl, fun _ _ => rfl⟩
set_option maxRecDepth 100000 in
theorem fn_X10_init_37 : FN mX10_init 37 5 := ⟨RX5, TX5, 3, rfl, by decide +kernel, by decide +kernel, by decide +kernel, by decide +kernel, rfl⟩
set_option maxRecDepth 100000 in
theorem cl_X10_init_39 : CIN mX10_init 39 mX5_init 0 := ⟨gX10_init_X5_init_n39, by decide +kernel, by decide +kernel, by decide +kernel, by decide +kernel, rfl, ⟨⟨_, rfl⟩, by decide +kernel, by decide⟩⟩
set_option maxRecDepth 100000 in
theorem fa_X10_init_40 : FA mX10_init 40 10 4 "LScanRing$Sorter;" true := ⟨RX10, TX10, 7, rfl, by decide, by decide +kernel, by decide +kernel, rfl, rfl, rfl, fun _ _ => rfl⟩
set_option maxRecDepth 100000 in
theorem fn_X10_init_44 : FN mX10_init 44 3 := ⟨RX3, TX3, 4, rfl, by decide +kernel, by decide +kernel, by decide +kernel, by decide +kernel, rfl⟩
set_option maxRecDepth 100000 in
theorem cl_X10_init_46 : CI mX10_init 46 mX3_init 0 := ⟨gX10_init_X3_init, by decide +kernel, by decide +kernel, by decide +kernel, by decide +kernel, rfl, ⟨⟨_, rfl⟩, by decide +kernel, by decide⟩⟩
set_option maxRecDepth 100000 in
theorem fa_X10_init_47 : FA mX10_init 47 10 5 "LScanRing$Setup;" true := ⟨RX10, TX10, 7, rfl, by decide, by decide +kernel, by decide +kernel, rfl, rfl, rfl, fun _ _ => rfl⟩
set_option maxRecDepth 100000 in
theorem fn_X10_init_51 : FN mX10_init 51 9 := ⟨RX9, TX9, 4, rfl, by decide +kernel, by decide +kernel, by decide +kernel, by decide +kernel, rfl⟩
set_option maxRecDepth 100000 in
theorem cl_X10_init_53 : CI mX10_init 53 mX9_init 2 := ⟨gX10_init_X9_init, by decide +kernel, by decide +kernel, by decide +kernel, by decide +kernel, rfl, ⟨⟨_, rfl⟩, by decide +kernel, by decide⟩⟩
set_option maxRecDepth 100000 in
theorem fa_X10_init_56 : FA mX10_init 56 10 6 "LScanRing$TextReader;" true := ⟨RX10, TX10, 7, rfl, by decide, by decide +kernel, by decide +kernel, rfl, rfl, rfl, fun _ _ => rfl⟩
abbrev mX10_isChannel : MD := (yX10_isChannel, cX10_isChannel, 1, (some .boolean), wsX10_isChannel, ({ frames := 1, cells := 0, slots := 0, locals := 22 } : Room))
set_option maxRecDepth 100000 in
theorem cl_X10_isChannel_90 : CS mX10_isChannel 90 mX10_isWithin 3 := ⟨gX10_isChannel_X10_isWithin, ⟨⟨_, rfl⟩, by decide +kernel, by decide⟩⟩
abbrev mX10_isSource : MD := (yX10_isSource, cX10_isSource, 4, (some .boolean), wsX10_isSource, ({ frames := 1, cells := 0, slots := 0, locals := 22 } : Room))
set_option maxRecDepth 100000 in
theorem cl_X10_isSource_90 : CS mX10_isSource 90 mX10_isWithin 3 := ⟨gX10_isSource_X10_isWithin, ⟨⟨_, rfl⟩, by decide +kernel, by decide⟩⟩
abbrev mX10_setSource : MD := (yX10_setSource, cX10_setSource, 7, (some .int), wsX10_setSource, ({ frames := 6, cells := 0, slots := 0, locals := 132 } : Room))
set_option maxRecDepth 100000 in
theorem cl_X10_setSource_60 : CS mX10_setSource 60 mX10_isChannel 1 := ⟨gX10_setSource_X10_isChannel, ⟨⟨_, rfl⟩, by decide +kernel, by decide⟩⟩
set_option maxRecDepth 100000 in
theorem cl_X10_setSource_64 : CS mX10_setSource 64 mX10_isSource 4 := ⟨gX10_setSource_X10_isSource, ⟨⟨_, rfl⟩, by decide +kernel, by decide⟩⟩
set_option maxRecDepth 100000 in
theorem kc_X10_setSource_68 : Cond.constant mX10_setSource.1.cls 68 (-10000001) ∈ y_ws mX10_setSource := by decide +kernel
set_option maxRecDepth 100000 in
theorem fa_X10_setSource_19 : FA mX10_setSource 19 10 1 "LScanRing$History;" true := ⟨RX10, TX10, 7, rfl, by decide, by decide +kernel, by decide +kernel, rfl, rfl, rfl, fun _ h => absurd h (by decide +kernel)⟩
set_option maxRecDepth 100000 in
theorem fa_X10_setSource_10 : FA mX10_setSource 10 10 0 "LScanRing$State;" true := ⟨RX10, TX10, 7, rfl, by decide, by decide +kernel, by decide +kernel, rfl, rfl, rfl, fun _ h => absurd h (by decide +kernel)⟩
set_option maxRecDepth 100000 in
theorem cl_X10_setSource_69 : CV mX10_setSource 69 mX1_keep 1 := ⟨gX10_setSource_X1_keep, ⟨⟨_, rfl⟩, by decide +kernel, by decide⟩⟩
set_option maxRecDepth 100000 in
theorem fa_X10_setSource_73 : FA mX10_setSource 73 6 0 "LScanRing$Setup;" true := ⟨RX6, TX6, 7, rfl, by decide, by decide +kernel, by decide +kernel, rfl, rfl, rfl, fun _ h => absurd h (by decide +kernel)⟩
set_option maxRecDepth 100000 in
theorem fa_X10_setSource_76 : FA mX10_setSource 76 3 0 "LScanRing$Table;" true := ⟨RX3, TX3, 4, rfl, by decide, by decide +kernel, by decide +kernel, rfl, rfl, rfl, fun _ h => absurd h (by decide +kernel)⟩
set_option maxRecDepth 100000 in
theorem cl_X10_setSource_80 : CV mX10_setSource 80 mX7_at 2 := ⟨gX10_setSource_X7_at, ⟨⟨_, rfl⟩, by decide +kernel, by decide⟩⟩
set_option maxRecDepth 100000 in
theorem cl_X10_setSource_86 : CV mX10_setSource 86 mX3_putSource 5 := ⟨gX10_setSource_X3_putSource, ⟨⟨_, rfl⟩, by decide +kernel, by decide⟩⟩
abbrev mX10_setResistance : MD := (yX10_setResistance, cX10_setResistance, 4, (some .int), wsX10_setResistance, ({ frames := 6, cells := 0, slots := 0, locals := 132 } : Room))
set_option maxRecDepth 100000 in
theorem cl_X10_setResistance_60 : CS mX10_setResistance 60 mX10_isChannel 1 := ⟨gX10_setResistance_X10_isChannel, ⟨⟨_, rfl⟩, by decide +kernel, by decide⟩⟩
set_option maxRecDepth 100000 in
theorem cl_X10_setResistance_90 : CS mX10_setResistance 90 mX10_isWithin 3 := ⟨gX10_setResistance_X10_isWithin, ⟨⟨_, rfl⟩, by decide +kernel, by decide⟩⟩
set_option maxRecDepth 100000 in
theorem kc_X10_setResistance_68 : Cond.constant mX10_setResistance.1.cls 68 (-10000001) ∈ y_ws mX10_setResistance := by decide +kernel
set_option maxRecDepth 100000 in
theorem fa_X10_setResistance_19 : FA mX10_setResistance 19 10 1 "LScanRing$History;" true := ⟨RX10, TX10, 7, rfl, by decide, by decide +kernel, by decide +kernel, rfl, rfl, rfl, fun _ h => absurd h (by decide +kernel)⟩
set_option maxRecDepth 100000 in
theorem fa_X10_setResistance_10 : FA mX10_setResistance 10 10 0 "LScanRing$State;" true := ⟨RX10, TX10, 7, rfl, by decide, by decide +kernel, by decide +kernel, rfl, rfl, rfl, fun _ h => absurd h (by decide +kernel)⟩
set_option maxRecDepth 100000 in
theorem cl_X10_setResistance_69 : CV mX10_setResistance 69 mX1_keep 1 := ⟨gX10_setResistance_X1_keep, ⟨⟨_, rfl⟩, by decide +kernel, by decide⟩⟩
set_option maxRecDepth 100000 in
theorem fa_X10_setResistance_73 : FA mX10_setResistance 73 6 0 "LScanRing$Setup;" true := ⟨RX6, TX6, 7, rfl, by decide, by decide +kernel, by decide +kernel, rfl, rfl, rfl, fun _ h => absurd h (by decide +kernel)⟩
set_option maxRecDepth 100000 in
theorem fa_X10_setResistance_76 : FA mX10_setResistance 76 3 0 "LScanRing$Table;" true := ⟨RX3, TX3, 4, rfl, by decide, by decide +kernel, by decide +kernel, rfl, rfl, rfl, fun _ h => absurd h (by decide +kernel)⟩
set_option maxRecDepth 100000 in
theorem cl_X10_setResistance_80 : CV mX10_setResistance 80 mX7_at 2 := ⟨gX10_setResistance_X7_at, ⟨⟨_, rfl⟩, by decide +kernel, by decide⟩⟩
set_option maxRecDepth 100000 in
theorem cl_X10_setResistance_94 : CV mX10_setResistance 94 mX7_put 3 := ⟨gX10_setResistance_X7_put, ⟨⟨_, rfl⟩, by decide +kernel, by decide⟩⟩
abbrev mX10_isSetting : MD := (yX10_isSetting, cX10_isSetting, 2, (some .boolean), wsX10_isSetting, ({ frames := 1, cells := 0, slots := 0, locals := 22 } : Room))
set_option maxRecDepth 100000 in
theorem cl_X10_isSetting_90 : CS mX10_isSetting 90 mX10_isWithin 3 := ⟨gX10_isSetting_X10_isWithin, ⟨⟨_, rfl⟩, by decide +kernel, by decide⟩⟩
abbrev mX10_set : MD := (yX10_set, cX10_set, 4, (some .int), wsX10_set, ({ frames := 6, cells := 0, slots := 0, locals := 132 } : Room))
set_option maxRecDepth 100000 in
theorem cl_X10_set_98 : CS mX10_set 98 mX10_isSetting 2 := ⟨gX10_set_X10_isSetting, ⟨⟨_, rfl⟩, by decide +kernel, by decide⟩⟩
set_option maxRecDepth 100000 in
theorem kc_X10_set_68 : Cond.constant mX10_set.1.cls 68 (-10000001) ∈ y_ws mX10_set := by decide +kernel
set_option maxRecDepth 100000 in
theorem fa_X10_set_19 : FA mX10_set 19 10 1 "LScanRing$History;" true := ⟨RX10, TX10, 7, rfl, by decide, by decide +kernel, by decide +kernel, rfl, rfl, rfl, fun _ h => absurd h (by decide +kernel)⟩
set_option maxRecDepth 100000 in
theorem fa_X10_set_10 : FA mX10_set 10 10 0 "LScanRing$State;" true := ⟨RX10, TX10, 7, rfl, by decide, by decide +kernel, by decide +kernel, rfl, rfl, rfl, fun _ h => absurd h (by decide +kernel)⟩
set_option maxRecDepth 100000 in
theorem cl_X10_set_69 : CV mX10_set 69 mX1_keep 1 := ⟨gX10_set_X1_keep, ⟨⟨_, rfl⟩, by decide +kernel, by decide⟩⟩
set_option maxRecDepth 100000 in
theorem fa_X10_set_73 : FA mX10_set 73 6 0 "LScanRing$Setup;" true := ⟨RX6, TX6, 7, rfl, by decide, by decide +kernel, by decide +kernel, rfl, rfl, rfl, fun _ h => absurd h (by decide +kernel)⟩
set_option maxRecDepth 100000 in
theorem cl_X10_set_102 : CV mX10_set 102 mX3_setting 1 := ⟨gX10_set_X3_setting, ⟨⟨_, rfl⟩, by decide +kernel, by decide⟩⟩
set_option maxRecDepth 100000 in
theorem fa_X10_set_106 : FA mX10_set 106 3 2 "LScanRing$Table;" true := ⟨RX3, TX3, 4, rfl, by decide, by decide +kernel, by decide +kernel, rfl, rfl, rfl, fun _ h => absurd h (by decide +kernel)⟩
set_option maxRecDepth 100000 in
theorem cl_X10_set_94 : CV mX10_set 94 mX7_put 3 := ⟨gX10_set_X7_put, ⟨⟨_, rfl⟩, by decide +kernel, by decide⟩⟩
abbrev mX10_isSettle : MD := (yX10_isSettle, cX10_isSettle, 1, (some .boolean), wsX10_isSettle, ({ frames := 1, cells := 0, slots := 0, locals := 22 } : Room))
set_option maxRecDepth 100000 in
theorem cl_X10_isSettle_90 : CS mX10_isSettle 90 mX10_isWithin 3 := ⟨gX10_isSettle_X10_isWithin, ⟨⟨_, rfl⟩, by decide +kernel, by decide⟩⟩
abbrev mX10_addEntry : MD := (yX10_addEntry, cX10_addEntry, 5, (some .int), wsX10_addEntry, ({ frames := 6, cells := 0, slots := 0, locals := 132 } : Room))
set_option maxRecDepth 100000 in
theorem fa_X10_addEntry_10 : FA mX10_addEntry 10 10 0 "LScanRing$State;" true := ⟨RX10, TX10, 7, rfl, by decide, by decide +kernel, by decide +kernel, rfl, rfl, rfl, fun _ h => absurd h (by decide +kernel)⟩
set_option maxRecDepth 100000 in
theorem fa_X10_addEntry_73 : FA mX10_addEntry 73 6 0 "LScanRing$Setup;" true := ⟨RX6, TX6, 7, rfl, by decide, by decide +kernel, by decide +kernel, rfl, rfl, rfl, fun _ h => absurd h (by decide +kernel)⟩
set_option maxRecDepth 100000 in
theorem fa_X10_addEntry_109 : FA mX10_addEntry 109 3 3 "I" false := ⟨RX3, TX3, 4, rfl, by decide, by decide +kernel, by decide +kernel, rfl, rfl, rfl, fun h => by cases h⟩
set_option maxRecDepth 100000 in
theorem cl_X10_addEntry_90 : CS mX10_addEntry 90 mX10_isWithin 3 := ⟨gX10_addEntry_X10_isWithin, ⟨⟨_, rfl⟩, by decide +kernel, by decide⟩⟩
set_option maxRecDepth 100000 in
theorem cl_X10_addEntry_113 : CS mX10_addEntry 113 mX10_isSettle 1 := ⟨gX10_addEntry_X10_isSettle, ⟨⟨_, rfl⟩, by decide +kernel, by decide⟩⟩
set_option maxRecDepth 100000 in
theorem kc_X10_addEntry_68 : Cond.constant mX10_addEntry.1.cls 68 (-10000001) ∈ y_ws mX10_addEntry := by decide +kernel
set_option maxRecDepth 100000 in
theorem kc_X10_addEntry_116 : Cond.constant mX10_addEntry.1.cls 116 (-10000003) ∈ y_ws mX10_addEntry := by decide +kernel
set_option maxRecDepth 100000 in
theorem fa_X10_addEntry_19 : FA mX10_addEntry 19 10 1 "LScanRing$History;" true := ⟨RX10, TX10, 7, rfl, by decide, by decide +kernel, by decide +kernel, rfl, rfl, rfl, fun _ h => absurd h (by decide +kernel)⟩
set_option maxRecDepth 100000 in
theorem cl_X10_addEntry_69 : CV mX10_addEntry 69 mX1_keep 1 := ⟨gX10_addEntry_X1_keep, ⟨⟨_, rfl⟩, by decide +kernel, by decide⟩⟩
set_option maxRecDepth 100000 in
theorem cl_X10_addEntry_117 : CV mX10_addEntry 117 mX3_insert 3 := ⟨gX10_addEntry_X3_insert, ⟨⟨_, rfl⟩, by decide +kernel, by decide⟩⟩
abbrev mX10_isEntry : MD := (yX10_isEntry, cX10_isEntry, 2, (some .boolean), wsX10_isEntry, ({ frames := 1, cells := 0, slots := 0, locals := 22 } : Room))
set_option maxRecDepth 100000 in
theorem fa_X10_isEntry_10 : FA mX10_isEntry 10 10 0 "LScanRing$State;" true := ⟨RX10, TX10, 7, rfl, by decide, by decide +kernel, by decide +kernel, rfl, rfl, rfl, fun _ h => absurd h (by decide +kernel)⟩
set_option maxRecDepth 100000 in
theorem fa_X10_isEntry_73 : FA mX10_isEntry 73 6 0 "LScanRing$Setup;" true := ⟨RX6, TX6, 7, rfl, by decide, by decide +kernel, by decide +kernel, rfl, rfl, rfl, fun _ h => absurd h (by decide +kernel)⟩
set_option maxRecDepth 100000 in
theorem fa_X10_isEntry_109 : FA mX10_isEntry 109 3 3 "I" false := ⟨RX3, TX3, 4, rfl, by decide, by decide +kernel, by decide +kernel, rfl, rfl, rfl, fun h => by cases h⟩
set_option maxRecDepth 100000 in
theorem cl_X10_isEntry_90 : CS mX10_isEntry 90 mX10_isWithin 3 := ⟨gX10_isEntry_X10_isWithin, ⟨⟨_, rfl⟩, by decide +kernel, by decide⟩⟩
abbrev mX10_removeEntry : MD := (yX10_removeEntry, cX10_removeEntry, 2, (some .int), wsX10_removeEntry, ({ frames := 6, cells := 0, slots := 0, locals := 132 } : Room))
set_option maxRecDepth 100000 in
theorem cl_X10_removeEntry_120 : CV mX10_removeEntry 120 mX10_isEntry 1 := ⟨gX10_removeEntry_X10_isEntry, ⟨⟨_, rfl⟩, by decide +kernel, by decide⟩⟩
set_option maxRecDepth 100000 in
theorem kc_X10_removeEntry_68 : Cond.constant mX10_removeEntry.1.cls 68 (-10000001) ∈ y_ws mX10_removeEntry := by decide +kernel
set_option maxRecDepth 100000 in
theorem fa_X10_removeEntry_19 : FA mX10_removeEntry 19 10 1 "LScanRing$History;" true := ⟨RX10, TX10, 7, rfl, by decide, by decide +kernel, by decide +kernel, rfl, rfl, rfl, fun _ h => absurd h (by decide +kernel)⟩
set_option maxRecDepth 100000 in
theorem fa_X10_removeEntry_10 : FA mX10_removeEntry 10 10 0 "LScanRing$State;" true := ⟨RX10, TX10, 7, rfl, by decide, by decide +kernel, by decide +kernel, rfl, rfl, rfl, fun _ h => absurd h (by decide +kernel)⟩
set_option maxRecDepth 100000 in
theorem cl_X10_removeEntry_69 : CV mX10_removeEntry 69 mX1_keep 1 := ⟨gX10_removeEntry_X1_keep, ⟨⟨_, rfl⟩, by decide +kernel, by decide⟩⟩
set_option maxRecDepth 100000 in
theorem fa_X10_removeEntry_73 : FA mX10_removeEntry 73 6 0 "LScanRing$Setup;" true := ⟨RX6, TX6, 7, rfl, by decide, by decide +kernel, by decide +kernel, rfl, rfl, rfl, fun _ h => absurd h (by decide +kernel)⟩
set_option maxRecDepth 100000 in
theorem cl_X10_removeEntry_123 : CV mX10_removeEntry 123 mX3_removeAt 1 := ⟨gX10_removeEntry_X3_removeAt, ⟨⟨_, rfl⟩, by decide +kernel, by decide⟩⟩
set_option maxRecDepth 100000 in
theorem fa_X10_removeEntry_109 : FA mX10_removeEntry 109 3 3 "I" false := ⟨RX3, TX3, 4, rfl, by decide, by decide +kernel, by decide +kernel, rfl, rfl, rfl, fun h => by cases h⟩
abbrev mX10_setSettle : MD := (yX10_setSettle, cX10_setSettle, 4, (some .int), wsX10_setSettle, ({ frames := 6, cells := 0, slots := 0, locals := 132 } : Room))
set_option maxRecDepth 100000 in
theorem cl_X10_setSettle_120 : CV mX10_setSettle 120 mX10_isEntry 1 := ⟨gX10_setSettle_X10_isEntry, ⟨⟨_, rfl⟩, by decide +kernel, by decide⟩⟩
set_option maxRecDepth 100000 in
theorem cl_X10_setSettle_113 : CS mX10_setSettle 113 mX10_isSettle 1 := ⟨gX10_setSettle_X10_isSettle, ⟨⟨_, rfl⟩, by decide +kernel, by decide⟩⟩
set_option maxRecDepth 100000 in
theorem kc_X10_setSettle_68 : Cond.constant mX10_setSettle.1.cls 68 (-10000001) ∈ y_ws mX10_setSettle := by decide +kernel
set_option maxRecDepth 100000 in
theorem fa_X10_setSettle_19 : FA mX10_setSettle 19 10 1 "LScanRing$History;" true := ⟨RX10, TX10, 7, rfl, by decide, by decide +kernel, by decide +kernel, rfl, rfl, rfl, fun _ h => absurd h (by decide +kernel)⟩
set_option maxRecDepth 100000 in
theorem fa_X10_setSettle_10 : FA mX10_setSettle 10 10 0 "LScanRing$State;" true := ⟨RX10, TX10, 7, rfl, by decide, by decide +kernel, by decide +kernel, rfl, rfl, rfl, fun _ h => absurd h (by decide +kernel)⟩
set_option maxRecDepth 100000 in
theorem cl_X10_setSettle_69 : CV mX10_setSettle 69 mX1_keep 1 := ⟨gX10_setSettle_X1_keep, ⟨⟨_, rfl⟩, by decide +kernel, by decide⟩⟩
set_option maxRecDepth 100000 in
theorem fa_X10_setSettle_73 : FA mX10_setSettle 73 6 0 "LScanRing$Setup;" true := ⟨RX6, TX6, 7, rfl, by decide, by decide +kernel, by decide +kernel, rfl, rfl, rfl, fun _ h => absurd h (by decide +kernel)⟩
set_option maxRecDepth 100000 in
theorem fa_X10_setSettle_127 : FA mX10_setSettle 127 3 1 "LScanRing$Table;" true := ⟨RX3, TX3, 4, rfl, by decide, by decide +kernel, by decide +kernel, rfl, rfl, rfl, fun _ h => absurd h (by decide +kernel)⟩
set_option maxRecDepth 100000 in
theorem cl_X10_setSettle_80 : CV mX10_setSettle 80 mX7_at 2 := ⟨gX10_setSettle_X7_at, ⟨⟨_, rfl⟩, by decide +kernel, by decide⟩⟩
set_option maxRecDepth 100000 in
theorem cl_X10_setSettle_94 : CV mX10_setSettle 94 mX7_put 3 := ⟨gX10_setSettle_X7_put, ⟨⟨_, rfl⟩, by decide +kernel, by decide⟩⟩
abbrev mX10_order : MD := (yX10_order, cX10_order, 2, (some .int), wsX10_order, ({ frames := 6, cells := 0, slots := 0, locals := 132 } : Room))
set_option maxRecDepth 100000 in
theorem cl_X10_order_90 : CS mX10_order 90 mX10_isWithin 3 := ⟨gX10_order_X10_isWithin, ⟨⟨_, rfl⟩, by decide +kernel, by decide⟩⟩
set_option maxRecDepth 100000 in
theorem kc_X10_order_68 : Cond.constant mX10_order.1.cls 68 (-10000001) ∈ y_ws mX10_order := by decide +kernel
set_option maxRecDepth 100000 in
theorem fa_X10_order_19 : FA mX10_order 19 10 1 "LScanRing$History;" true := ⟨RX10, TX10, 7, rfl, by decide, by decide +kernel, by decide +kernel, rfl, rfl, rfl, fun _ h => absurd h (by decide +kernel)⟩
set_option maxRecDepth 100000 in
theorem fa_X10_order_10 : FA mX10_order 10 10 0 "LScanRing$State;" true := ⟨RX10, TX10, 7, rfl, by decide, by decide +kernel, by decide +kernel, rfl, rfl, rfl, fun _ h => absurd h (by decide +kernel)⟩
set_option maxRecDepth 100000 in
theorem cl_X10_order_69 : CV mX10_order 69 mX1_keep 1 := ⟨gX10_order_X1_keep, ⟨⟨_, rfl⟩, by decide +kernel, by decide⟩⟩
set_option maxRecDepth 100000 in
theorem fa_X10_order_40 : FA mX10_order 40 10 4 "LScanRing$Sorter;" true := ⟨RX10, TX10, 7, rfl, by decide, by decide +kernel, by decide +kernel, rfl, rfl, rfl, fun _ h => absurd h (by decide +kernel)⟩
set_option maxRecDepth 100000 in
theorem fa_X10_order_73 : FA mX10_order 73 6 0 "LScanRing$Setup;" true := ⟨RX6, TX6, 7, rfl, by decide, by decide +kernel, by decide +kernel, rfl, rfl, rfl, fun _ h => absurd h (by decide +kernel)⟩
set_option maxRecDepth 100000 in
theorem cl_X10_order_130 : CV mX10_order 130 mX6_time 0 := ⟨gX10_order_X6_time, ⟨⟨_, rfl⟩, by decide +kernel, by decide⟩⟩
set_option maxRecDepth 100000 in
theorem cl_X10_order_134 : CV mX10_order 134 mX5_arrange 3 := ⟨gX10_order_X5_arrange, ⟨⟨_, rfl⟩, by decide +kernel, by decide⟩⟩
abbrev mX10_scanOnce : MD := (yX10_scanOnce, cX10_scanOnce, 2, none, wsX10_scanOnce, ({ frames := 5, cells := 0, slots := 0, locals := 116 } : Room))
set_option maxRecDepth 100000 in
theorem fa_X10_scanOnce_10 : FA mX10_scanOnce 10 10 0 "LScanRing$State;" true := ⟨RX10, TX10, 7, rfl, by decide, by decide +kernel, by decide +kernel, rfl, rfl, rfl, fun _ h => absurd h (by decide +kernel)⟩
set_option maxRecDepth 100000 in
theorem fa_X10_scanOnce_73 : FA mX10_scanOnce 73 6 0 "LScanRing$Setup;" true := ⟨RX6, TX6, 7, rfl, by decide, by decide +kernel, by decide +kernel, rfl, rfl, rfl, fun _ h => absurd h (by decide +kernel)⟩
set_option maxRecDepth 100000 in
theorem fa_X10_scanOnce_109 : FA mX10_scanOnce 109 3 3 "I" false := ⟨RX3, TX3, 4, rfl, by decide, by decide +kernel, by decide +kernel, rfl, rfl, rfl, fun h => by cases h⟩
set_option maxRecDepth 100000 in
theorem fa_X10_scanOnce_33 : FA mX10_scanOnce 33 10 3 "LScanRing$Converter;" true := ⟨RX10, TX10, 7, rfl, by decide, by decide +kernel, by decide +kernel, rfl, rfl, rfl, fun _ h => absurd h (by decide +kernel)⟩
set_option maxRecDepth 100000 in
theorem cl_X10_scanOnce_267 : CV mX10_scanOnce 267 mX0_carryOutEntry 2 := ⟨gX10_scanOnce_X0_carryOutEntry, ⟨⟨_, rfl⟩, by decide +kernel, by decide⟩⟩
set_option maxRecDepth 100000 in
theorem fa_X10_scanOnce_127 : FA mX10_scanOnce 127 3 1 "LScanRing$Table;" true := ⟨RX3, TX3, 4, rfl, by decide, by decide +kernel, by decide +kernel, rfl, rfl, rfl, fun _ h => absurd h (by decide +kernel)⟩
set_option maxRecDepth 100000 in
theorem cl_X10_scanOnce_80 : CV mX10_scanOnce 80 mX7_at 2 := ⟨gX10_scanOnce_X7_at, ⟨⟨_, rfl⟩, by decide +kernel, by decide⟩⟩
set_option maxRecDepth 100000 in
theorem cl_X10_scanOnce_271 : CV mX10_scanOnce 271 mX3_slotsOfEntry 1 := ⟨gX10_scanOnce_X3_slotsOfEntry, ⟨⟨_, rfl⟩, by decide +kernel, by decide⟩⟩
set_option maxRecDepth 100000 in
theorem cl_X10_scanOnce_274 : CV mX10_scanOnce 274 mX6_book 3 := ⟨gX10_scanOnce_X6_book, ⟨⟨_, rfl⟩, by decide +kernel, by decide⟩⟩
abbrev mX10_scan : MD := (yX10_scan, cX10_scan, 4, (some .int), wsX10_scan, ({ frames := 6, cells := 0, slots := 0, locals := 137 } : Room))
set_option maxRecDepth 100000 in
theorem cl_X10_scan_90 : CS mX10_scan 90 mX10_isWithin 3 := ⟨gX10_scan_X10_isWithin, ⟨⟨_, rfl⟩, by decide +kernel, by decide⟩⟩
set_option maxRecDepth 100000 in
theorem kc_X10_scan_68 : Cond.constant mX10_scan.1.cls 68 (-10000001) ∈ y_ws mX10_scan := by decide +kernel
set_option maxRecDepth 100000 in
theorem fa_X10_scan_10 : FA mX10_scan 10 10 0 "LScanRing$State;" true := ⟨RX10, TX10, 7, rfl, by decide, by decide +kernel, by decide +kernel, rfl, rfl, rfl, fun _ h => absurd h (by decide +kernel)⟩
set_option maxRecDepth 100000 in
theorem fa_X10_scan_73 : FA mX10_scan 73 6 0 "LScanRing$Setup;" true := ⟨RX6, TX6, 7, rfl, by decide, by decide +kernel, by decide +kernel, rfl, rfl, rfl, fun _ h => absurd h (by decide +kernel)⟩
set_option maxRecDepth 100000 in
theorem fa_X10_scan_109 : FA mX10_scan 109 3 3 "I" false := ⟨RX3, TX3, 4, rfl, by decide, by decide +kernel, by decide +kernel, rfl, rfl, rfl, fun h => by cases h⟩
set_option maxRecDepth 100000 in
theorem kc_X10_scan_138 : Cond.constant mX10_scan.1.cls 138 (-10000002) ∈ y_ws mX10_scan := by decide +kernel
set_option maxRecDepth 100000 in
theorem cl_X10_scan_130 : CV mX10_scan 130 mX6_time 0 := ⟨gX10_scan_X6_time, ⟨⟨_, rfl⟩, by decide +kernel, by decide⟩⟩
set_option maxRecDepth 100000 in
theorem cl_X10_scan_139 : CV mX10_scan 139 mX3_slotsOfScan 0 := ⟨gX10_scan_X3_slotsOfScan, ⟨⟨_, rfl⟩, by decide +kernel, by decide⟩⟩
set_option maxRecDepth 100000 in
theorem kc_X10_scan_116 : Cond.constant mX10_scan.1.cls 116 (-10000003) ∈ y_ws mX10_scan := by decide +kernel
set_option maxRecDepth 100000 in
theorem fa_X10_scan_19 : FA mX10_scan 19 10 1 "LScanRing$History;" true := ⟨RX10, TX10, 7, rfl, by decide, by decide +kernel, by decide +kernel, rfl, rfl, rfl, fun _ h => absurd h (by decide +kernel)⟩
set_option maxRecDepth 100000 in
theorem cl_X10_scan_69 : CV mX10_scan 69 mX1_keep 1 := ⟨gX10_scan_X1_keep, ⟨⟨_, rfl⟩, by decide +kernel, by decide⟩⟩
set_option maxRecDepth 100000 in
theorem fa_X10_scan_142 : FA mX10_scan 142 6 3 "LScanRing$Table;" true := ⟨RX6, TX6, 7, rfl, by decide, by decide +kernel, by decide +kernel, rfl, rfl, rfl, fun _ h => absurd h (by decide +kernel)⟩
set_option maxRecDepth 100000 in
theorem cl_X10_scan_80 : CV mX10_scan 80 mX7_at 2 := ⟨gX10_scan_X7_at, ⟨⟨_, rfl⟩, by decide +kernel, by decide⟩⟩
set_option maxRecDepth 100000 in
theorem fa_X10_scan_33 : FA mX10_scan 33 10 3 "LScanRing$Converter;" true := ⟨RX10, TX10, 7, rfl, by decide, by decide +kernel, by decide +kernel, rfl, rfl, rfl, fun _ h => absurd h (by decide +kernel)⟩
set_option maxRecDepth 100000 in
theorem fa_X10_scan_145 : FA mX10_scan 145 6 6 "F" false := ⟨RX6, TX6, 7, rfl, by decide, by decide +kernel, by decide +kernel, rfl, rfl, rfl, fun h => by cases h⟩
set_option maxRecDepth 100000 in
theorem cl_X10_scan_149 : CV mX10_scan 149 mX0_start 2 := ⟨gX10_scan_X0_start, ⟨⟨_, rfl⟩, by decide +kernel, by decide⟩⟩
set_option maxRecDepth 100000 in
theorem cl_X10_scan_153 : CV mX10_scan 153 mX10_scanOnce 0 := ⟨gX10_scan_X10_scanOnce, ⟨⟨_, rfl⟩, by decide +kernel, by decide⟩⟩
abbrev mX10_pass : MD := (yX10_pass, cX10_pass, 2, (some .int), wsX10_pass, ({ frames := 6, cells := 0, slots := 0, locals := 132 } : Room))
set_option maxRecDepth 100000 in
theorem cl_X10_pass_90 : CS mX10_pass 90 mX10_isWithin 3 := ⟨gX10_pass_X10_isWithin, ⟨⟨_, rfl⟩, by decide +kernel, by decide⟩⟩
set_option maxRecDepth 100000 in
theorem kc_X10_pass_68 : Cond.constant mX10_pass.1.cls 68 (-10000001) ∈ y_ws mX10_pass := by decide +kernel
set_option maxRecDepth 100000 in
theorem fa_X10_pass_10 : FA mX10_pass 10 10 0 "LScanRing$State;" true := ⟨RX10, TX10, 7, rfl, by decide, by decide +kernel, by decide +kernel, rfl, rfl, rfl, fun _ h => absurd h (by decide +kernel)⟩
set_option maxRecDepth 100000 in
theorem cl_X10_pass_130 : CV mX10_pass 130 mX6_time 0 := ⟨gX10_pass_X6_time, ⟨⟨_, rfl⟩, by decide +kernel, by decide⟩⟩
set_option maxRecDepth 100000 in
theorem kc_X10_pass_116 : Cond.constant mX10_pass.1.cls 116 (-10000003) ∈ y_ws mX10_pass := by decide +kernel
set_option maxRecDepth 100000 in
theorem fa_X10_pass_19 : FA mX10_pass 19 10 1 "LScanRing$History;" true := ⟨RX10, TX10, 7, rfl, by decide, by decide +kernel, by decide +kernel, rfl, rfl, rfl, fun _ h => absurd h (by decide +kernel)⟩
set_option maxRecDepth 100000 in
theorem cl_X10_pass_69 : CV mX10_pass 69 mX1_keep 1 := ⟨gX10_pass_X1_keep, ⟨⟨_, rfl⟩, by decide +kernel, by decide⟩⟩
set_option maxRecDepth 100000 in
theorem cl_X10_pass_156 : CV mX10_pass 156 mX6_addTo 2 := ⟨gX10_pass_X6_addTo, ⟨⟨_, rfl⟩, by decide +kernel, by decide⟩⟩
abbrev mX10_isSnapshotPlace : MD := (yX10_isSnapshotPlace, cX10_isSnapshotPlace, 1, (some .boolean), wsX10_isSnapshotPlace, ({ frames := 1, cells := 0, slots := 0, locals := 22 } : Room))
set_option maxRecDepth 100000 in
theorem cl_X10_isSnapshotPlace_90 : CS mX10_isSnapshotPlace 90 mX10_isWithin 3 := ⟨gX10_isSnapshotPlace_X10_isWithin, ⟨⟨_, rfl⟩, by decide +kernel, by decide⟩⟩
abbrev mX10_take : MD := (yX10_take, cX10_take, 3, (some .int), wsX10_take, ({ frames := 6, cells := 0, slots := 0, locals := 132 } : Room))
set_option maxRecDepth 100000 in
theorem cl_X10_take_160 : CS mX10_take 160 mX10_isSnapshotPlace 1 := ⟨gX10_take_X10_isSnapshotPlace, ⟨⟨_, rfl⟩, by decide +kernel, by decide⟩⟩
set_option maxRecDepth 100000 in
theorem kc_X10_take_68 : Cond.constant mX10_take.1.cls 68 (-10000001) ∈ y_ws mX10_take := by decide +kernel
set_option maxRecDepth 100000 in
theorem fa_X10_take_19 : FA mX10_take 19 10 1 "LScanRing$History;" true := ⟨RX10, TX10, 7, rfl, by decide, by decide +kernel, by decide +kernel, rfl, rfl, rfl, fun _ h => absurd h (by decide +kernel)⟩
set_option maxRecDepth 100000 in
theorem fa_X10_take_10 : FA mX10_take 10 10 0 "LScanRing$State;" true := ⟨RX10, TX10, 7, rfl, by decide, by decide +kernel, by decide +kernel, rfl, rfl, rfl, fun _ h => absurd h (by decide +kernel)⟩
set_option maxRecDepth 100000 in
theorem cl_X10_take_69 : CV mX10_take 69 mX1_keep 1 := ⟨gX10_take_X1_keep, ⟨⟨_, rfl⟩, by decide +kernel, by decide⟩⟩
set_option maxRecDepth 100000 in
theorem cl_X10_take_163 : CV mX10_take 163 mX6_snapshotAt 1 := ⟨gX10_take_X6_snapshotAt, ⟨⟨_, rfl⟩, by decide +kernel, by decide⟩⟩
set_option maxRecDepth 100000 in
theorem fa_X10_take_167 : FA mX10_take 167 4 1 "Z" false := ⟨RX4, TX4, 2, rfl, by decide, by decide +kernel, by decide +kernel, rfl, rfl, rfl, fun h => by cases h⟩
set_option maxRecDepth 100000 in
theorem fa_X10_take_173 : FA mX10_take 173 4 0 "LScanRing$Setup;" true := ⟨RX4, TX4, 2, rfl, by decide, by decide +kernel, by decide +kernel, rfl, rfl, rfl, fun _ h => absurd h (by decide +kernel)⟩
set_option maxRecDepth 100000 in
theorem fa_X10_take_73 : FA mX10_take 73 6 0 "LScanRing$Setup;" true := ⟨RX6, TX6, 7, rfl, by decide, by decide +kernel, by decide +kernel, rfl, rfl, rfl, fun _ h => absurd h (by decide +kernel)⟩
set_option maxRecDepth 100000 in
theorem cl_X10_take_174 : CV mX10_take 174 mX3_copyFrom 1 := ⟨gX10_take_X3_copyFrom, ⟨⟨_, rfl⟩, by decide +kernel, by decide⟩⟩
set_option maxRecDepth 100000 in
theorem fa_X10_take_109 : FA mX10_take 109 3 3 "I" false := ⟨RX3, TX3, 4, rfl, by decide, by decide +kernel, by decide +kernel, rfl, rfl, rfl, fun h => by cases h⟩
abbrev mX10_restore : MD := (yX10_restore, cX10_restore, 3, (some .int), wsX10_restore, ({ frames := 6, cells := 0, slots := 0, locals := 132 } : Room))
set_option maxRecDepth 100000 in
theorem cl_X10_restore_160 : CS mX10_restore 160 mX10_isSnapshotPlace 1 := ⟨gX10_restore_X10_isSnapshotPlace, ⟨⟨_, rfl⟩, by decide +kernel, by decide⟩⟩
set_option maxRecDepth 100000 in
theorem kc_X10_restore_68 : Cond.constant mX10_restore.1.cls 68 (-10000001) ∈ y_ws mX10_restore := by decide +kernel
set_option maxRecDepth 100000 in
theorem fa_X10_restore_10 : FA mX10_restore 10 10 0 "LScanRing$State;" true := ⟨RX10, TX10, 7, rfl, by decide, by decide +kernel, by decide +kernel, rfl, rfl, rfl, fun _ h => absurd h (by decide +kernel)⟩
set_option maxRecDepth 100000 in
theorem cl_X10_restore_163 : CV mX10_restore 163 mX6_snapshotAt 1 := ⟨gX10_restore_X6_snapshotAt, ⟨⟨_, rfl⟩, by decide +kernel, by decide⟩⟩
set_option maxRecDepth 100000 in
theorem fa_X10_restore_167 : FA mX10_restore 167 4 1 "Z" false := ⟨RX4, TX4, 2, rfl, by decide, by decide +kernel, by decide +kernel, rfl, rfl, rfl, fun h => by cases h⟩
set_option maxRecDepth 100000 in
theorem kc_X10_restore_138 : Cond.constant mX10_restore.1.cls 138 (-10000002) ∈ y_ws mX10_restore := by decide +kernel
set_option maxRecDepth 100000 in
theorem fa_X10_restore_19 : FA mX10_restore 19 10 1 "LScanRing$History;" true := ⟨RX10, TX10, 7, rfl, by decide, by decide +kernel, by decide +kernel, rfl, rfl, rfl, fun _ h => absurd h (by decide +kernel)⟩
set_option maxRecDepth 100000 in
theorem cl_X10_restore_69 : CV mX10_restore 69 mX1_keep 1 := ⟨gX10_restore_X1_keep, ⟨⟨_, rfl⟩, by decide +kernel, by decide⟩⟩
set_option maxRecDepth 100000 in
theorem fa_X10_restore_73 : FA mX10_restore 73 6 0 "LScanRing$Setup;" true := ⟨RX6, TX6, 7, rfl, by decide, by decide +kernel, by decide +kernel, rfl, rfl, rfl, fun _ h => absurd h (by decide +kernel)⟩
set_option maxRecDepth 100000 in
theorem fa_X10_restore_173 : FA mX10_restore 173 4 0 "LScanRing$Setup;" true := ⟨RX4, TX4, 2, rfl, by decide, by decide +kernel, by decide +kernel, rfl, rfl, rfl, fun _ h => absurd h (by decide +kernel)⟩
set_option maxRecDepth 100000 in
theorem cl_X10_restore_174 : CV mX10_restore 174 mX3_copyFrom 1 := ⟨gX10_restore_X3_copyFrom, ⟨⟨_, rfl⟩, by decide +kernel, by decide⟩⟩
set_option maxRecDepth 100000 in
theorem fa_X10_restore_109 : FA mX10_restore 109 3 3 "I" false := ⟨RX3, TX3, 4, rfl, by decide, by decide +kernel, by decide +kernel, rfl, rfl, rfl, fun h => by cases h⟩
abbrev mX10_undo : MD := (yX10_undo, cX10_undo, 1, (some .int), wsX10_undo, ({ frames := 6, cells := 0, slots := 0, locals := 133 } : Room))
set_option maxRecDepth 100000 in
theorem fa_X10_undo_19 : FA mX10_undo 19 10 1 "LScanRing$History;" true := ⟨RX10, TX10, 7, rfl, by decide, by decide +kernel, by decide +kernel, rfl, rfl, rfl, fun _ h => absurd h (by decide +kernel)⟩
set_option maxRecDepth 100000 in
theorem fa_X10_undo_178 : FA mX10_undo 178 1 2 "I" false := ⟨RX1, TX1, 3, rfl, by decide, by decide +kernel, by decide +kernel, rfl, rfl, rfl, fun h => by cases h⟩
set_option maxRecDepth 100000 in
theorem kc_X10_undo_138 : Cond.constant mX10_undo.1.cls 138 (-10000002) ∈ y_ws mX10_undo := by decide +kernel
set_option maxRecDepth 100000 in
theorem fa_X10_undo_10 : FA mX10_undo 10 10 0 "LScanRing$State;" true := ⟨RX10, TX10, 7, rfl, by decide, by decide +kernel, by decide +kernel, rfl, rfl, rfl, fun _ h => absurd h (by decide +kernel)⟩
set_option maxRecDepth 100000 in
theorem cl_X10_undo_181 : CV mX10_undo 181 mX1_bringBack 1 := ⟨gX10_undo_X1_bringBack, ⟨⟨_, rfl⟩, by decide +kernel, by decide⟩⟩
abbrev mX10_append : MD := (yX10_append, cX10_append, 2, (some .int), wsX10_append, ({ frames := 1, cells := 0, slots := 0, locals := 22 } : Room))
set_option maxRecDepth 100000 in
theorem cl_X10_append_90 : CS mX10_append 90 mX10_isWithin 3 := ⟨gX10_append_X10_isWithin, ⟨⟨_, rfl⟩, by decide +kernel, by decide⟩⟩
set_option maxRecDepth 100000 in
theorem kc_X10_append_68 : Cond.constant mX10_append.1.cls 68 (-10000001) ∈ y_ws mX10_append := by decide +kernel
set_option maxRecDepth 100000 in
theorem fa_X10_append_26 : FA mX10_append 26 10 2 "LScanRing$Text;" true := ⟨RX10, TX10, 7, rfl, by decide, by decide +kernel, by decide +kernel, rfl, rfl, rfl, fun _ h => absurd h (by decide +kernel)⟩
set_option maxRecDepth 100000 in
theorem fa_X10_append_184 : FA mX10_append 184 8 1 "I" false := ⟨RX8, TX8, 2, rfl, by decide, by decide +kernel, by decide +kernel, rfl, rfl, rfl, fun h => by cases h⟩
set_option maxRecDepth 100000 in
theorem kc_X10_append_116 : Cond.constant mX10_append.1.cls 116 (-10000003) ∈ y_ws mX10_append := by decide +kernel
set_option maxRecDepth 100000 in
theorem cl_X10_append_187 : CV mX10_append 187 mX8_add 1 := ⟨gX10_append_X8_add, ⟨⟨_, rfl⟩, by decide +kernel, by decide⟩⟩
abbrev mX10_clearText : MD := (yX10_clearText, cX10_clearText, 2, (some .int), wsX10_clearText, ({ frames := 0, cells := 0, slots := 0, locals := 0 } : Room))
set_option maxRecDepth 100000 in
theorem fa_X10_clearText_26 : FA mX10_clearText 26 10 2 "LScanRing$Text;" true := ⟨RX10, TX10, 7, rfl, by decide, by decide +kernel, by decide +kernel, rfl, rfl, rfl, fun _ h => absurd h (by decide +kernel)⟩
set_option maxRecDepth 100000 in
theorem fa_X10_clearText_184 : FA mX10_clearText 184 8 1 "I" false := ⟨RX8, TX8, 2, rfl, by decide, by decide +kernel, by decide +kernel, rfl, rfl, rfl, fun h => by cases h⟩
abbrev mX10_load : MD := (yX10_load, cX10_load, 2, (some .int), wsX10_load, ({ frames := 6, cells := 0, slots := 0, locals := 138 } : Room))
set_option maxRecDepth 100000 in
theorem fa_X10_load_47 : FA mX10_load 47 10 5 "LScanRing$Setup;" true := ⟨RX10, TX10, 7, rfl, by decide, by decide +kernel, by decide +kernel, rfl, rfl, rfl, fun _ h => absurd h (by decide +kernel)⟩
set_option maxRecDepth 100000 in
theorem fa_X10_load_10 : FA mX10_load 10 10 0 "LScanRing$State;" true := ⟨RX10, TX10, 7, rfl, by decide, by decide +kernel, by decide +kernel, rfl, rfl, rfl, fun _ h => absurd h (by decide +kernel)⟩
set_option maxRecDepth 100000 in
theorem fa_X10_load_73 : FA mX10_load 73 6 0 "LScanRing$Setup;" true := ⟨RX6, TX6, 7, rfl, by decide, by decide +kernel, by decide +kernel, rfl, rfl, rfl, fun _ h => absurd h (by decide +kernel)⟩
set_option maxRecDepth 100000 in
theorem cl_X10_load_174 : CV mX10_load 174 mX3_copyFrom 1 := ⟨gX10_load_X3_copyFrom, ⟨⟨_, rfl⟩, by decide +kernel, by decide⟩⟩
set_option maxRecDepth 100000 in
theorem fa_X10_load_56 : FA mX10_load 56 10 6 "LScanRing$TextReader;" true := ⟨RX10, TX10, 7, rfl, by decide, by decide +kernel, by decide +kernel, rfl, rfl, rfl, fun _ h => absurd h (by decide +kernel)⟩
set_option maxRecDepth 100000 in
theorem cl_X10_load_190 : CV mX10_load 190 mX9_readItems 0 := ⟨gX10_load_X9_readItems, ⟨⟨_, rfl⟩, by decide +kernel, by decide⟩⟩
set_option maxRecDepth 100000 in
theorem cl_X10_load_193 : CV mX10_load 193 mX9_hasFailed 0 := ⟨gX10_load_X9_hasFailed, ⟨⟨_, rfl⟩, by decide +kernel, by decide⟩⟩
set_option maxRecDepth 100000 in
theorem kc_X10_load_197 : Cond.constant mX10_load.1.cls 197 (-20000000) ∈ y_ws mX10_load := by decide +kernel
set_option maxRecDepth 100000 in
theorem fa_X10_load_198 : FA mX10_load 198 9 3 "I" false := ⟨RX9, TX9, 4, rfl, by decide, by decide +kernel, by decide +kernel, rfl, rfl, rfl, fun h => by cases h⟩
set_option maxRecDepth 100000 in
theorem fa_X10_load_19 : FA mX10_load 19 10 1 "LScanRing$History;" true := ⟨RX10, TX10, 7, rfl, by decide, by decide +kernel, by decide +kernel, rfl, rfl, rfl, fun _ h => absurd h (by decide +kernel)⟩
set_option maxRecDepth 100000 in
theorem cl_X10_load_69 : CV mX10_load 69 mX1_keep 1 := ⟨gX10_load_X1_keep, ⟨⟨_, rfl⟩, by decide +kernel, by decide⟩⟩
set_option maxRecDepth 100000 in
theorem fa_X10_load_26 : FA mX10_load 26 10 2 "LScanRing$Text;" true := ⟨RX10, TX10, 7, rfl, by decide, by decide +kernel, by decide +kernel, rfl, rfl, rfl, fun _ h => absurd h (by decide +kernel)⟩
set_option maxRecDepth 100000 in
theorem fa_X10_load_184 : FA mX10_load 184 8 1 "I" false := ⟨RX8, TX8, 2, rfl, by decide, by decide +kernel, by decide +kernel, rfl, rfl, rfl, fun h => by cases h⟩
abbrev mX10_count : MD := (yX10_count, cX10_count, 2, (some .int), wsX10_count, ({ frames := 3, cells := 0, slots := 0, locals := 66 } : Room))
set_option maxRecDepth 100000 in
theorem fa_X10_count_10 : FA mX10_count 10 10 0 "LScanRing$State;" true := ⟨RX10, TX10, 7, rfl, by decide, by decide +kernel, by decide +kernel, rfl, rfl, rfl, fun _ h => absurd h (by decide +kernel)⟩
set_option maxRecDepth 100000 in
theorem cl_X10_count_130 : CV mX10_count 130 mX6_time 0 := ⟨gX10_count_X6_time, ⟨⟨_, rfl⟩, by decide +kernel, by decide⟩⟩
set_option maxRecDepth 100000 in
theorem fa_X10_count_73 : FA mX10_count 73 6 0 "LScanRing$Setup;" true := ⟨RX6, TX6, 7, rfl, by decide, by decide +kernel, by decide +kernel, rfl, rfl, rfl, fun _ h => absurd h (by decide +kernel)⟩
set_option maxRecDepth 100000 in
theorem fa_X10_count_109 : FA mX10_count 109 3 3 "I" false := ⟨RX3, TX3, 4, rfl, by decide, by decide +kernel, by decide +kernel, rfl, rfl, rfl, fun h => by cases h⟩
set_option maxRecDepth 100000 in
theorem cl_X10_count_102 : CV mX10_count 102 mX3_setting 1 := ⟨gX10_count_X3_setting, ⟨⟨_, rfl⟩, by decide +kernel, by decide⟩⟩
set_option maxRecDepth 100000 in
theorem fa_X10_count_201 : FA mX10_count 201 6 1 "LScanRing$Log;" true := ⟨RX6, TX6, 7, rfl, by decide, by decide +kernel, by decide +kernel, rfl, rfl, rfl, fun _ h => absurd h (by decide +kernel)⟩
set_option maxRecDepth 100000 in
theorem fa_X10_count_205 : FA mX10_count 205 2 2 "I" false := ⟨RX2, TX2, 3, rfl, by decide, by decide +kernel, by decide +kernel, rfl, rfl, rfl, fun h => by cases h⟩
set_option maxRecDepth 100000 in
theorem cl_X10_count_208 : CV mX10_count 208 mX6_snapshotsTaken 0 := ⟨gX10_count_X6_snapshotsTaken, ⟨⟨_, rfl⟩, by decide +kernel, by decide⟩⟩
set_option maxRecDepth 100000 in
theorem cl_X10_count_139 : CV mX10_count 139 mX3_slotsOfScan 0 := ⟨gX10_count_X3_slotsOfScan, ⟨⟨_, rfl⟩, by decide +kernel, by decide⟩⟩
set_option maxRecDepth 100000 in
theorem fa_X10_count_19 : FA mX10_count 19 10 1 "LScanRing$History;" true := ⟨RX10, TX10, 7, rfl, by decide, by decide +kernel, by decide +kernel, rfl, rfl, rfl, fun _ h => absurd h (by decide +kernel)⟩
set_option maxRecDepth 100000 in
theorem fa_X10_count_178 : FA mX10_count 178 1 2 "I" false := ⟨RX1, TX1, 3, rfl, by decide, by decide +kernel, by decide +kernel, rfl, rfl, rfl, fun h => by cases h⟩
set_option maxRecDepth 100000 in
theorem fa_X10_count_26 : FA mX10_count 26 10 2 "LScanRing$Text;" true := ⟨RX10, TX10, 7, rfl, by decide, by decide +kernel, by decide +kernel, rfl, rfl, rfl, fun _ h => absurd h (by decide +kernel)⟩
set_option maxRecDepth 100000 in
theorem fa_X10_count_184 : FA mX10_count 184 8 1 "I" false := ⟨RX8, TX8, 2, rfl, by decide, by decide +kernel, by decide +kernel, rfl, rfl, rfl, fun h => by cases h⟩
set_option maxRecDepth 100000 in
theorem cl_X10_count_211 : CV mX10_count 211 mX3_sourcesOf 1 := ⟨gX10_count_X3_sourcesOf, ⟨⟨_, rfl⟩, by decide +kernel, by decide⟩⟩
set_option maxRecDepth 100000 in
theorem kc_X10_count_68 : Cond.constant mX10_count.1.cls 68 (-10000001) ∈ y_ws mX10_count := by decide +kernel
abbrev mX10_channel : MD := (yX10_channel, cX10_channel, 3, (some .int), wsX10_channel, ({ frames := 3, cells := 0, slots := 0, locals := 68 } : Room))
set_option maxRecDepth 100000 in
theorem cl_X10_channel_60 : CS mX10_channel 60 mX10_isChannel 1 := ⟨gX10_channel_X10_isChannel, ⟨⟨_, rfl⟩, by decide +kernel, by decide⟩⟩
set_option maxRecDepth 100000 in
theorem cl_X10_channel_90 : CS mX10_channel 90 mX10_isWithin 3 := ⟨gX10_channel_X10_isWithin, ⟨⟨_, rfl⟩, by decide +kernel, by decide⟩⟩
set_option maxRecDepth 100000 in
theorem kc_X10_channel_68 : Cond.constant mX10_channel.1.cls 68 (-10000001) ∈ y_ws mX10_channel := by decide +kernel
set_option maxRecDepth 100000 in
theorem fa_X10_channel_10 : FA mX10_channel 10 10 0 "LScanRing$State;" true := ⟨RX10, TX10, 7, rfl, by decide, by decide +kernel, by decide +kernel, rfl, rfl, rfl, fun _ h => absurd h (by decide +kernel)⟩
set_option maxRecDepth 100000 in
theorem fa_X10_channel_214 : FA mX10_channel 214 6 2 "LScanRing$Table;" true := ⟨RX6, TX6, 7, rfl, by decide, by decide +kernel, by decide +kernel, rfl, rfl, rfl, fun _ h => absurd h (by decide +kernel)⟩
set_option maxRecDepth 100000 in
theorem cl_X10_channel_80 : CV mX10_channel 80 mX7_at 2 := ⟨gX10_channel_X7_at, ⟨⟨_, rfl⟩, by decide +kernel, by decide⟩⟩
set_option maxRecDepth 100000 in
theorem cl_X10_channel_217 : CV mX10_channel 217 mX6_correctedReading 1 := ⟨gX10_channel_X6_correctedReading, ⟨⟨_, rfl⟩, by decide +kernel, by decide⟩⟩
set_option maxRecDepth 100000 in
theorem fa_X10_channel_73 : FA mX10_channel 73 6 0 "LScanRing$Setup;" true := ⟨RX6, TX6, 7, rfl, by decide, by decide +kernel, by decide +kernel, rfl, rfl, rfl, fun _ h => absurd h (by decide +kernel)⟩
set_option maxRecDepth 100000 in
theorem cl_X10_channel_220 : CV mX10_channel 220 mX3_entriesOf 1 := ⟨gX10_channel_X3_entriesOf, ⟨⟨_, rfl⟩, by decide +kernel, by decide⟩⟩
set_option maxRecDepth 100000 in
theorem fa_X10_channel_76 : FA mX10_channel 76 3 0 "LScanRing$Table;" true := ⟨RX3, TX3, 4, rfl, by decide, by decide +kernel, by decide +kernel, rfl, rfl, rfl, fun _ h => absurd h (by decide +kernel)⟩
abbrev mX10_entry : MD := (yX10_entry, cX10_entry, 3, (some .int), wsX10_entry, ({ frames := 2, cells := 0, slots := 0, locals := 43 } : Room))
set_option maxRecDepth 100000 in
theorem cl_X10_entry_90 : CS mX10_entry 90 mX10_isWithin 3 := ⟨gX10_entry_X10_isWithin, ⟨⟨_, rfl⟩, by decide +kernel, by decide⟩⟩
set_option maxRecDepth 100000 in
theorem kc_X10_entry_68 : Cond.constant mX10_entry.1.cls 68 (-10000001) ∈ y_ws mX10_entry := by decide +kernel
set_option maxRecDepth 100000 in
theorem cl_X10_entry_120 : CV mX10_entry 120 mX10_isEntry 1 := ⟨gX10_entry_X10_isEntry, ⟨⟨_, rfl⟩, by decide +kernel, by decide⟩⟩
set_option maxRecDepth 100000 in
theorem fa_X10_entry_10 : FA mX10_entry 10 10 0 "LScanRing$State;" true := ⟨RX10, TX10, 7, rfl, by decide, by decide +kernel, by decide +kernel, rfl, rfl, rfl, fun _ h => absurd h (by decide +kernel)⟩
set_option maxRecDepth 100000 in
theorem fa_X10_entry_73 : FA mX10_entry 73 6 0 "LScanRing$Setup;" true := ⟨RX6, TX6, 7, rfl, by decide, by decide +kernel, by decide +kernel, rfl, rfl, rfl, fun _ h => absurd h (by decide +kernel)⟩
set_option maxRecDepth 100000 in
theorem fa_X10_entry_127 : FA mX10_entry 127 3 1 "LScanRing$Table;" true := ⟨RX3, TX3, 4, rfl, by decide, by decide +kernel, by decide +kernel, rfl, rfl, rfl, fun _ h => absurd h (by decide +kernel)⟩
set_option maxRecDepth 100000 in
theorem cl_X10_entry_80 : CV mX10_entry 80 mX7_at 2 := ⟨gX10_entry_X7_at, ⟨⟨_, rfl⟩, by decide +kernel, by decide⟩⟩
set_option maxRecDepth 100000 in
theorem kc_X10_entry_223 : Cond.constant mX10_entry.1.cls 223 (-10000009) ∈ y_ws mX10_entry := by decide +kernel
abbrev mX10_value : MD := (yX10_value, cX10_value, 3, (some .int), wsX10_value, ({ frames := 3, cells := 0, slots := 0, locals := 68 } : Room))
set_option maxRecDepth 100000 in
theorem cl_X10_value_60 : CS mX10_value 60 mX10_isChannel 1 := ⟨gX10_value_X10_isChannel, ⟨⟨_, rfl⟩, by decide +kernel, by decide⟩⟩
set_option maxRecDepth 100000 in
theorem cl_X10_value_90 : CS mX10_value 90 mX10_isWithin 3 := ⟨gX10_value_X10_isWithin, ⟨⟨_, rfl⟩, by decide +kernel, by decide⟩⟩
set_option maxRecDepth 100000 in
theorem kc_X10_value_68 : Cond.constant mX10_value.1.cls 68 (-10000001) ∈ y_ws mX10_value := by decide +kernel
set_option maxRecDepth 100000 in
theorem fa_X10_value_10 : FA mX10_value 10 10 0 "LScanRing$State;" true := ⟨RX10, TX10, 7, rfl, by decide, by decide +kernel, by decide +kernel, rfl, rfl, rfl, fun _ h => absurd h (by decide +kernel)⟩
set_option maxRecDepth 100000 in
theorem fa_X10_value_73 : FA mX10_value 73 6 0 "LScanRing$Setup;" true := ⟨RX6, TX6, 7, rfl, by decide, by decide +kernel, by decide +kernel, rfl, rfl, rfl, fun _ h => absurd h (by decide +kernel)⟩
set_option maxRecDepth 100000 in
theorem cl_X10_value_224 : CV mX10_value 224 mX3_valueAt 2 := ⟨gX10_value_X3_valueAt, ⟨⟨_, rfl⟩, by decide +kernel, by decide⟩⟩
abbrev mX10_sample : MD := (yX10_sample, cX10_sample, 3, (some .int), wsX10_sample, ({ frames := 2, cells := 0, slots := 0, locals := 45 } : Room))
set_option maxRecDepth 100000 in
theorem cl_X10_sample_90 : CS mX10_sample 90 mX10_isWithin 3 := ⟨gX10_sample_X10_isWithin, ⟨⟨_, rfl⟩, by decide +kernel, by decide⟩⟩
set_option maxRecDepth 100000 in
theorem kc_X10_sample_68 : Cond.constant mX10_sample.1.cls 68 (-10000001) ∈ y_ws mX10_sample := by decide +kernel
set_option maxRecDepth 100000 in
theorem fa_X10_sample_10 : FA mX10_sample 10 10 0 "LScanRing$State;" true := ⟨RX10, TX10, 7, rfl, by decide, by decide +kernel, by decide +kernel, rfl, rfl, rfl, fun _ h => absurd h (by decide +kernel)⟩
set_option maxRecDepth 100000 in
theorem fa_X10_sample_201 : FA mX10_sample 201 6 1 "LScanRing$Log;" true := ⟨RX6, TX6, 7, rfl, by decide, by decide +kernel, by decide +kernel, rfl, rfl, rfl, fun _ h => absurd h (by decide +kernel)⟩
set_option maxRecDepth 100000 in
theorem fa_X10_sample_205 : FA mX10_sample 205 2 2 "I" false := ⟨RX2, TX2, 3, rfl, by decide, by decide +kernel, by decide +kernel, rfl, rfl, rfl, fun h => by cases h⟩
set_option maxRecDepth 100000 in
theorem cl_X10_sample_227 : CV mX10_sample 227 mX2_part 2 := ⟨gX10_sample_X2_part, ⟨⟨_, rfl⟩, by decide +kernel, by decide⟩⟩
set_option maxRecDepth 100000 in
theorem kc_X10_sample_223 : Cond.constant mX10_sample.1.cls 223 (-10000009) ∈ y_ws mX10_sample := by decide +kernel
abbrev mX10_account : MD := (yX10_account, cX10_account, 2, (some .int), wsX10_account, ({ frames := 2, cells := 0, slots := 0, locals := 43 } : Room))
set_option maxRecDepth 100000 in
theorem fa_X10_account_10 : FA mX10_account 10 10 0 "LScanRing$State;" true := ⟨RX10, TX10, 7, rfl, by decide, by decide +kernel, by decide +kernel, rfl, rfl, rfl, fun _ h => absurd h (by decide +kernel)⟩
set_option maxRecDepth 100000 in
theorem cl_X10_account_130 : CV mX10_account 130 mX6_time 0 := ⟨gX10_account_X6_time, ⟨⟨_, rfl⟩, by decide +kernel, by decide⟩⟩
set_option maxRecDepth 100000 in
theorem cl_X10_account_90 : CS mX10_account 90 mX10_isWithin 3 := ⟨gX10_account_X10_isWithin, ⟨⟨_, rfl⟩, by decide +kernel, by decide⟩⟩
set_option maxRecDepth 100000 in
theorem fa_X10_account_142 : FA mX10_account 142 6 3 "LScanRing$Table;" true := ⟨RX6, TX6, 7, rfl, by decide, by decide +kernel, by decide +kernel, rfl, rfl, rfl, fun _ h => absurd h (by decide +kernel)⟩
set_option maxRecDepth 100000 in
theorem cl_X10_account_80 : CV mX10_account 80 mX7_at 2 := ⟨gX10_account_X7_at, ⟨⟨_, rfl⟩, by decide +kernel, by decide⟩⟩
set_option maxRecDepth 100000 in
theorem kc_X10_account_68 : Cond.constant mX10_account.1.cls 68 (-10000001) ∈ y_ws mX10_account := by decide +kernel
abbrev mX10_held : MD := (yX10_held, cX10_held, 2, (some .int), wsX10_held, ({ frames := 3, cells := 0, slots := 0, locals := 65 } : Room))
set_option maxRecDepth 100000 in
theorem fa_X10_held_10 : FA mX10_held 10 10 0 "LScanRing$State;" true := ⟨RX10, TX10, 7, rfl, by decide, by decide +kernel, by decide +kernel, rfl, rfl, rfl, fun _ h => absurd h (by decide +kernel)⟩
set_option maxRecDepth 100000 in
theorem fa_X10_held_145 : FA mX10_held 145 6 6 "F" false := ⟨RX6, TX6, 7, rfl, by decide, by decide +kernel, by decide +kernel, rfl, rfl, rfl, fun h => by cases h⟩
set_option maxRecDepth 100000 in
theorem fa_X10_held_73 : FA mX10_held 73 6 0 "LScanRing$Setup;" true := ⟨RX6, TX6, 7, rfl, by decide, by decide +kernel, by decide +kernel, rfl, rfl, rfl, fun _ h => absurd h (by decide +kernel)⟩
set_option maxRecDepth 100000 in
theorem cl_X10_held_230 : CV mX10_held 230 mX3_readingOf 1 := ⟨gX10_held_X3_readingOf, ⟨⟨_, rfl⟩, by decide +kernel, by decide⟩⟩
set_option maxRecDepth 100000 in
theorem kc_X10_held_234 : Cond.constantFloat mX10_held.1.cls 234 (1132462080) ∈ y_ws mX10_held := by decide +kernel
set_option maxRecDepth 100000 in
theorem kc_X10_held_68 : Cond.constant mX10_held.1.cls 68 (-10000001) ∈ y_ws mX10_held := by decide +kernel
abbrev mX10_tryEntries : MD := (yX10_tryEntries, cX10_tryEntries, 5, (some .int), wsX10_tryEntries, ({ frames := 5, cells := 0, slots := 0, locals := 116 } : Room))
set_option maxRecDepth 100000 in
theorem fa_X10_tryEntries_33 : FA mX10_tryEntries 33 10 3 "LScanRing$Converter;" true := ⟨RX10, TX10, 7, rfl, by decide, by decide +kernel, by decide +kernel, rfl, rfl, rfl, fun _ h => absurd h (by decide +kernel)⟩
set_option maxRecDepth 100000 in
theorem fa_X10_tryEntries_10 : FA mX10_tryEntries 10 10 0 "LScanRing$State;" true := ⟨RX10, TX10, 7, rfl, by decide, by decide +kernel, by decide +kernel, rfl, rfl, rfl, fun _ h => absurd h (by decide +kernel)⟩
set_option maxRecDepth 100000 in
theorem fa_X10_tryEntries_145 : FA mX10_tryEntries 145 6 6 "F" false := ⟨RX6, TX6, 7, rfl, by decide, by decide +kernel, by decide +kernel, rfl, rfl, rfl, fun h => by cases h⟩
set_option maxRecDepth 100000 in
theorem cl_X10_tryEntries_130 : CV mX10_tryEntries 130 mX6_time 0 := ⟨gX10_tryEntries_X6_time, ⟨⟨_, rfl⟩, by decide +kernel, by decide⟩⟩
set_option maxRecDepth 100000 in
theorem cl_X10_tryEntries_149 : CV mX10_tryEntries 149 mX0_start 2 := ⟨gX10_tryEntries_X0_start, ⟨⟨_, rfl⟩, by decide +kernel, by decide⟩⟩
set_option maxRecDepth 100000 in
theorem cl_X10_tryEntries_267 : CV mX10_tryEntries 267 mX0_carryOutEntry 2 := ⟨gX10_tryEntries_X0_carryOutEntry, ⟨⟨_, rfl⟩, by decide +kernel, by decide⟩⟩
set_option maxRecDepth 100000 in
theorem fa_X10_tryEntries_242 : FA mX10_tryEntries 242 0 3 "I" false := ⟨RX0, TX0, 5, rfl, by decide, by decide +kernel, by decide +kernel, rfl, rfl, rfl, fun h => by cases h⟩
set_option maxRecDepth 100000 in
theorem wm_X10_tryEntries_262 : WM mX10_tryEntries 262 Lib.Math.abs.name Lib.Math.abs.code 1 := ⟨by decide +kernel, by decide +kernel, by decide +kernel, by decide +kernel, by decide, by decide⟩
abbrev mX10_would : MD := (yX10_would, cX10_would, 3, (some .int), wsX10_would, ({ frames := 6, cells := 0, slots := 0, locals := 140 } : Room))
set_option maxRecDepth 100000 in
theorem cl_X10_would_120 : CV mX10_would 120 mX10_isEntry 1 := ⟨gX10_would_X10_isEntry, ⟨⟨_, rfl⟩, by decide +kernel, by decide⟩⟩
set_option maxRecDepth 100000 in
theorem cl_X10_would_90 : CS mX10_would 90 mX10_isWithin 3 := ⟨gX10_would_X10_isWithin, ⟨⟨_, rfl⟩, by decide +kernel, by decide⟩⟩
set_option maxRecDepth 100000 in
theorem kc_X10_would_68 : Cond.constant mX10_would.1.cls 68 (-10000001) ∈ y_ws mX10_would := by decide +kernel
set_option maxRecDepth 100000 in
theorem fa_X10_would_10 : FA mX10_would 10 10 0 "LScanRing$State;" true := ⟨RX10, TX10, 7, rfl, by decide, by decide +kernel, by decide +kernel, rfl, rfl, rfl, fun _ h => absurd h (by decide +kernel)⟩
set_option maxRecDepth 100000 in
theorem fa_X10_would_73 : FA mX10_would 73 6 0 "LScanRing$Setup;" true := ⟨RX6, TX6, 7, rfl, by decide, by decide +kernel, by decide +kernel, rfl, rfl, rfl, fun _ h => absurd h (by decide +kernel)⟩
set_option maxRecDepth 100000 in
theorem cl_X10_would_235 : CV mX10_would 235 mX10_tryEntries 2 := ⟨gX10_would_X10_tryEntries, ⟨⟨_, rfl⟩, by decide +kernel, by decide⟩⟩
set_option maxRecDepth 100000 in
theorem fa_X10_would_33 : FA mX10_would 33 10 3 "LScanRing$Converter;" true := ⟨RX10, TX10, 7, rfl, by decide, by decide +kernel, by decide +kernel, rfl, rfl, rfl, fun _ h => absurd h (by decide +kernel)⟩
set_option maxRecDepth 100000 in
theorem fa_X10_would_239 : FA mX10_would 239 0 2 "I" false := ⟨RX0, TX0, 5, rfl, by decide, by decide +kernel, by decide +kernel, rfl, rfl, rfl, fun h => by cases h⟩
set_option maxRecDepth 100000 in
theorem fa_X10_would_242 : FA mX10_would 242 0 3 "I" false := ⟨RX0, TX0, 5, rfl, by decide, by decide +kernel, by decide +kernel, rfl, rfl, rfl, fun h => by cases h⟩
set_option maxRecDepth 100000 in
theorem cl_X10_would_245 : CV mX10_would 245 mX0_error 0 := ⟨gX10_would_X0_error, ⟨⟨_, rfl⟩, by decide +kernel, by decide⟩⟩
abbrev mX10_why : MD := (yX10_why, cX10_why, 2, (some .int), wsX10_why, ({ frames := 6, cells := 0, slots := 0, locals := 140 } : Room))
set_option maxRecDepth 100000 in
theorem cl_X10_why_120 : CV mX10_why 120 mX10_isEntry 1 := ⟨gX10_why_X10_isEntry, ⟨⟨_, rfl⟩, by decide +kernel, by decide⟩⟩
set_option maxRecDepth 100000 in
theorem kc_X10_why_68 : Cond.constant mX10_why.1.cls 68 (-10000001) ∈ y_ws mX10_why := by decide +kernel
set_option maxRecDepth 100000 in
theorem fa_X10_why_10 : FA mX10_why 10 10 0 "LScanRing$State;" true := ⟨RX10, TX10, 7, rfl, by decide, by decide +kernel, by decide +kernel, rfl, rfl, rfl, fun _ h => absurd h (by decide +kernel)⟩
set_option maxRecDepth 100000 in
theorem fa_X10_why_73 : FA mX10_why 73 6 0 "LScanRing$Setup;" true := ⟨RX6, TX6, 7, rfl, by decide, by decide +kernel, by decide +kernel, rfl, rfl, rfl, fun _ h => absurd h (by decide +kernel)⟩
set_option maxRecDepth 100000 in
theorem cl_X10_why_235 : CV mX10_why 235 mX10_tryEntries 2 := ⟨gX10_why_X10_tryEntries, ⟨⟨_, rfl⟩, by decide +kernel, by decide⟩⟩
set_option maxRecDepth 100000 in
theorem fa_X10_why_33 : FA mX10_why 33 10 3 "LScanRing$Converter;" true := ⟨RX10, TX10, 7, rfl, by decide, by decide +kernel, by decide +kernel, rfl, rfl, rfl, fun _ h => absurd h (by decide +kernel)⟩
set_option maxRecDepth 100000 in
theorem cl_X10_why_245 : CV mX10_why 245 mX0_error 0 := ⟨gX10_why_X0_error, ⟨⟨_, rfl⟩, by decide +kernel, by decide⟩⟩
set_option maxRecDepth 100000 in
theorem fa_X10_why_242 : FA mX10_why 242 0 3 "I" false := ⟨RX0, TX0, 5, rfl, by decide, by decide +kernel, by decide +kernel, rfl, rfl, rfl, fun h => by cases h⟩
set_option maxRecDepth 100000 in
theorem fa_X10_why_248 : FA mX10_why 248 0 0 "F" false := ⟨RX0, TX0, 5, rfl, by decide, by decide +kernel, by decide +kernel, rfl, rfl, rfl, fun h => by cases h⟩
set_option maxRecDepth 100000 in
theorem cl_X10_why_249 : CS mX10_why 249 mX10_readingWith 3 := ⟨gX10_why_X10_readingWith, ⟨⟨_, rfl⟩, by decide +kernel, by decide⟩⟩
set_option maxRecDepth 100000 in
theorem fa_X10_why_253 : FA mX10_why 253 0 4 "I" false := ⟨RX0, TX0, 5, rfl, by decide, by decide +kernel, by decide +kernel, rfl, rfl, rfl, fun h => by cases h⟩
abbrev mX10_settleFor : MD := (yX10_settleFor, cX10_settleFor, 7, (some .int), wsX10_settleFor, ({ frames := 6, cells := 0, slots := 0, locals := 140 } : Room))
set_option maxRecDepth 100000 in
theorem cl_X10_settleFor_120 : CV mX10_settleFor 120 mX10_isEntry 1 := ⟨gX10_settleFor_X10_isEntry, ⟨⟨_, rfl⟩, by decide +kernel, by decide⟩⟩
set_option maxRecDepth 100000 in
theorem cl_X10_settleFor_90 : CS mX10_settleFor 90 mX10_isWithin 3 := ⟨gX10_settleFor_X10_isWithin, ⟨⟨_, rfl⟩, by decide +kernel, by decide⟩⟩
set_option maxRecDepth 100000 in
theorem kc_X10_settleFor_68 : Cond.constant mX10_settleFor.1.cls 68 (-10000001) ∈ y_ws mX10_settleFor := by decide +kernel
set_option maxRecDepth 100000 in
theorem fa_X10_settleFor_10 : FA mX10_settleFor 10 10 0 "LScanRing$State;" true := ⟨RX10, TX10, 7, rfl, by decide, by decide +kernel, by decide +kernel, rfl, rfl, rfl, fun _ h => absurd h (by decide +kernel)⟩
set_option maxRecDepth 100000 in
theorem fa_X10_settleFor_73 : FA mX10_settleFor 73 6 0 "LScanRing$Setup;" true := ⟨RX6, TX6, 7, rfl, by decide, by decide +kernel, by decide +kernel, rfl, rfl, rfl, fun _ h => absurd h (by decide +kernel)⟩
set_option maxRecDepth 100000 in
theorem cl_X10_settleFor_235 : CV mX10_settleFor 235 mX10_tryEntries 2 := ⟨gX10_settleFor_X10_tryEntries, ⟨⟨_, rfl⟩, by decide +kernel, by decide⟩⟩
set_option maxRecDepth 100000 in
theorem fa_X10_settleFor_33 : FA mX10_settleFor 33 10 3 "LScanRing$Converter;" true := ⟨RX10, TX10, 7, rfl, by decide, by decide +kernel, by decide +kernel, rfl, rfl, rfl, fun _ h => absurd h (by decide +kernel)⟩
set_option maxRecDepth 100000 in
theorem fa_X10_settleFor_248 : FA mX10_settleFor 248 0 0 "F" false := ⟨RX0, TX0, 5, rfl, by decide, by decide +kernel, by decide +kernel, rfl, rfl, rfl, fun h => by cases h⟩
set_option maxRecDepth 100000 in
theorem fa_X10_settleFor_256 : FA mX10_settleFor 256 0 1 "I" false := ⟨RX0, TX0, 5, rfl, by decide, by decide +kernel, by decide +kernel, rfl, rfl, rfl, fun h => by cases h⟩
set_option maxRecDepth 100000 in
theorem fa_X10_settleFor_127 : FA mX10_settleFor 127 3 1 "LScanRing$Table;" true := ⟨RX3, TX3, 4, rfl, by decide, by decide +kernel, by decide +kernel, rfl, rfl, rfl, fun _ h => absurd h (by decide +kernel)⟩
set_option maxRecDepth 100000 in
theorem cl_X10_settleFor_80 : CV mX10_settleFor 80 mX7_at 2 := ⟨gX10_settleFor_X7_at, ⟨⟨_, rfl⟩, by decide +kernel, by decide⟩⟩
set_option maxRecDepth 100000 in
theorem cl_X10_settleFor_149 : CV mX10_settleFor 149 mX0_start 2 := ⟨gX10_settleFor_X0_start, ⟨⟨_, rfl⟩, by decide +kernel, by decide⟩⟩
set_option maxRecDepth 100000 in
theorem cl_X10_settleFor_258 : CV mX10_settleFor 258 mX0_carryOut 3 := ⟨gX10_settleFor_X0_carryOut, ⟨⟨_, rfl⟩, by decide +kernel, by decide⟩⟩
set_option maxRecDepth 100000 in
theorem cl_X10_settleFor_245 : CV mX10_settleFor 245 mX0_error 0 := ⟨gX10_settleFor_X0_error, ⟨⟨_, rfl⟩, by decide +kernel, by decide⟩⟩
set_option maxRecDepth 100000 in
theorem wm_X10_settleFor_262 : WM mX10_settleFor 262 Lib.Math.abs.name Lib.Math.abs.code 1 := ⟨by decide +kernel, by decide +kernel, by decide +kernel, by decide +kernel, by decide, by decide⟩
set_option maxRecDepth 100000 in
theorem kc_X10_settleFor_223 : Cond.constant mX10_settleFor.1.cls 223 (-10000009) ∈ y_ws mX10_settleFor := by decide +kernel
abbrev mX10_bestRule : MD := (yX10_bestRule, cX10_bestRule, 5, (some .int), wsX10_bestRule, ({ frames := 6, cells := 0, slots := 0, locals := 140 } : Room))
set_option maxRecDepth 100000 in
theorem fa_X10_bestRule_10 : FA mX10_bestRule 10 10 0 "LScanRing$State;" true := ⟨RX10, TX10, 7, rfl, by decide, by decide +kernel, by decide +kernel, rfl, rfl, rfl, fun _ h => absurd h (by decide +kernel)⟩
set_option maxRecDepth 100000 in
theorem fa_X10_bestRule_73 : FA mX10_bestRule 73 6 0 "LScanRing$Setup;" true := ⟨RX6, TX6, 7, rfl, by decide, by decide +kernel, by decide +kernel, rfl, rfl, rfl, fun _ h => absurd h (by decide +kernel)⟩
set_option maxRecDepth 100000 in
theorem fa_X10_bestRule_109 : FA mX10_bestRule 109 3 3 "I" false := ⟨RX3, TX3, 4, rfl, by decide, by decide +kernel, by decide +kernel, rfl, rfl, rfl, fun h => by cases h⟩
set_option maxRecDepth 100000 in
theorem cl_X10_bestRule_235 : CV mX10_bestRule 235 mX10_tryEntries 2 := ⟨gX10_bestRule_X10_tryEntries, ⟨⟨_, rfl⟩, by decide +kernel, by decide⟩⟩
set_option maxRecDepth 100000 in
theorem fa_X10_bestRule_47 : FA mX10_bestRule 47 10 5 "LScanRing$Setup;" true := ⟨RX10, TX10, 7, rfl, by decide, by decide +kernel, by decide +kernel, rfl, rfl, rfl, fun _ h => absurd h (by decide +kernel)⟩
set_option maxRecDepth 100000 in
theorem cl_X10_bestRule_174 : CV mX10_bestRule 174 mX3_copyFrom 1 := ⟨gX10_bestRule_X3_copyFrom, ⟨⟨_, rfl⟩, by decide +kernel, by decide⟩⟩
set_option maxRecDepth 100000 in
theorem fa_X10_bestRule_40 : FA mX10_bestRule 40 10 4 "LScanRing$Sorter;" true := ⟨RX10, TX10, 7, rfl, by decide, by decide +kernel, by decide +kernel, rfl, rfl, rfl, fun _ h => absurd h (by decide +kernel)⟩
set_option maxRecDepth 100000 in
theorem cl_X10_bestRule_130 : CV mX10_bestRule 130 mX6_time 0 := ⟨gX10_bestRule_X6_time, ⟨⟨_, rfl⟩, by decide +kernel, by decide⟩⟩
set_option maxRecDepth 100000 in
theorem cl_X10_bestRule_134 : CV mX10_bestRule 134 mX5_arrange 3 := ⟨gX10_bestRule_X5_arrange, ⟨⟨_, rfl⟩, by decide +kernel, by decide⟩⟩
abbrev mX10_groundsNeeded : MD := (yX10_groundsNeeded, cX10_groundsNeeded, 5, (some .int), wsX10_groundsNeeded, ({ frames := 5, cells := 0, slots := 0, locals := 116 } : Room))
set_option maxRecDepth 100000 in
theorem fa_X10_groundsNeeded_33 : FA mX10_groundsNeeded 33 10 3 "LScanRing$Converter;" true := ⟨RX10, TX10, 7, rfl, by decide, by decide +kernel, by decide +kernel, rfl, rfl, rfl, fun _ h => absurd h (by decide +kernel)⟩
set_option maxRecDepth 100000 in
theorem fa_X10_groundsNeeded_10 : FA mX10_groundsNeeded 10 10 0 "LScanRing$State;" true := ⟨RX10, TX10, 7, rfl, by decide, by decide +kernel, by decide +kernel, rfl, rfl, rfl, fun _ h => absurd h (by decide +kernel)⟩
set_option maxRecDepth 100000 in
theorem fa_X10_groundsNeeded_145 : FA mX10_groundsNeeded 145 6 6 "F" false := ⟨RX6, TX6, 7, rfl, by decide, by decide +kernel, by decide +kernel, rfl, rfl, rfl, fun h => by cases h⟩
set_option maxRecDepth 100000 in
theorem cl_X10_groundsNeeded_130 : CV mX10_groundsNeeded 130 mX6_time 0 := ⟨gX10_groundsNeeded_X6_time, ⟨⟨_, rfl⟩, by decide +kernel, by decide⟩⟩
set_option maxRecDepth 100000 in
theorem cl_X10_groundsNeeded_149 : CV mX10_groundsNeeded 149 mX0_start 2 := ⟨gX10_groundsNeeded_X0_start, ⟨⟨_, rfl⟩, by decide +kernel, by decide⟩⟩
set_option maxRecDepth 100000 in
theorem fa_X10_groundsNeeded_73 : FA mX10_groundsNeeded 73 6 0 "LScanRing$Setup;" true := ⟨RX6, TX6, 7, rfl, by decide, by decide +kernel, by decide +kernel, rfl, rfl, rfl, fun _ h => absurd h (by decide +kernel)⟩
set_option maxRecDepth 100000 in
theorem fa_X10_groundsNeeded_109 : FA mX10_groundsNeeded 109 3 3 "I" false := ⟨RX3, TX3, 4, rfl, by decide, by decide +kernel, by decide +kernel, rfl, rfl, rfl, fun h => by cases h⟩
set_option maxRecDepth 100000 in
theorem fa_X10_groundsNeeded_248 : FA mX10_groundsNeeded 248 0 0 "F" false := ⟨RX0, TX0, 5, rfl, by decide, by decide +kernel, by decide +kernel, rfl, rfl, rfl, fun h => by cases h⟩
set_option maxRecDepth 100000 in
theorem fa_X10_groundsNeeded_256 : FA mX10_groundsNeeded 256 0 1 "I" false := ⟨RX0, TX0, 5, rfl, by decide, by decide +kernel, by decide +kernel, rfl, rfl, rfl, fun h => by cases h⟩
set_option maxRecDepth 100000 in
theorem cl_X10_groundsNeeded_267 : CV mX10_groundsNeeded 267 mX0_carryOutEntry 2 := ⟨gX10_groundsNeeded_X0_carryOutEntry, ⟨⟨_, rfl⟩, by decide +kernel, by decide⟩⟩
set_option maxRecDepth 100000 in
theorem fa_X10_groundsNeeded_242 : FA mX10_groundsNeeded 242 0 3 "I" false := ⟨RX0, TX0, 5, rfl, by decide, by decide +kernel, by decide +kernel, rfl, rfl, rfl, fun h => by cases h⟩
set_option maxRecDepth 100000 in
theorem cl_X10_groundsNeeded_258 : CV mX10_groundsNeeded 258 mX0_carryOut 3 := ⟨gX10_groundsNeeded_X0_carryOut, ⟨⟨_, rfl⟩, by decide +kernel, by decide⟩⟩
