/-! FIXED FACTS of the methods: words, links, rooms (by program) -/
set_option maxRecDepth 100000 in
theorem zz_c_first : True := trivial
abbrev mX11_init : MD := (yX11_init, cX11_init, 2, none, wsX11_init, ({ frames := 1, cells := 6, slots := 12600, locals := 20 } : Room))
set_option maxRecDepth 100000 in
theorem ob_X11_init_1 : Cond.methodLink mX11_init.1.cls 1 objectInit ∈ y_ws mX11_init ∧ Cond.instanceMethod objectInit ∈ y_ws mX11_init ∧ Cond.code objectInit ⟨#[0xb1]⟩ 1 none ∈ y_ws mX11_init := ⟨by decide +kernel, by decide +kernel, by decide +kernel⟩
set_option maxRecDepth 100000 in
theorem ac_X11_init_int : Cond.arrayClass .int ∈ y_ws mX11_init := by decide +kernel
set_option maxRecDepth 100000 in
theorem fa_X11_init_7 : FA mX11_init 7 11 1 "[I" true := ⟨RX11, TX11, 17, rfl, by decide, by decide +kernel, by decide +kernel, rfl, rfl, rfl, fun _ _ => rfl⟩
set_option maxRecDepth 100000 in
theorem fa_X11_init_13 : FA mX11_init 13 11 2 "[I" true := ⟨RX11, TX11, 17, rfl, by decide, by decide +kernel, by decide +kernel, rfl, rfl, rfl, fun _ _ => rfl⟩
set_option maxRecDepth 100000 in
theorem fa_X11_init_16 : FA mX11_init 16 11 3 "[I" true := ⟨RX11, TX11, 17, rfl, by decide, by decide +kernel, by decide +kernel, rfl, rfl, rfl, fun _ _ => rfl⟩
set_option maxRecDepth 100000 in
theorem ac_X11_init_float : Cond.arrayClass .float ∈ y_ws mX11_init := by decide +kernel
set_option maxRecDepth 100000 in
theorem fa_X11_init_19 : FA mX11_init 19 11 4 "[F" true := ⟨RX11, TX11, 17, rfl, by decide, by decide +kernel, by decide +kernel, rfl, rfl, rfl, fun _ _ => rfl⟩
set_option maxRecDepth 100000 in
theorem fa_X11_init_23 : FA mX11_init 23 11 7 "[I" true := ⟨RX11, TX11, 17, rfl, by decide, by decide +kernel, by decide +kernel, rfl, rfl, rfl, fun _ _ => rfl⟩
set_option maxRecDepth 100000 in
theorem fa_X11_init_26 : FA mX11_init 26 11 14 "[I" true := ⟨RX11, TX11, 17, rfl, by decide, by decide +kernel, by decide +kernel, rfl, rfl, rfl, fun _ _ => rfl⟩
set_option maxRecDepth 100000 in
theorem fa_X11_init_29 : FA mX11_init 29 11 0 "I" false := ⟨RX11, TX11, 17, rfl, by decide, by decide +kernel, by decide +kernel, rfl, rfl, rfl, fun h => by cases h⟩
abbrev mX11_in : MD := (yX11_in, cX11_in, 3, (some .boolean), wsX11_in, ({ frames := 0, cells := 0, slots := 0, locals := 0 } : Room))
abbrev mX11_size : MD := (yX11_size, cX11_size, 1, (some .int), wsX11_size, ({ frames := 0, cells := 0, slots := 0, locals := 0 } : Room))
abbrev mX11_down : MD := (yX11_down, cX11_down, 2, (some .int), wsX11_down, ({ frames := 0, cells := 0, slots := 0, locals := 0 } : Room))
abbrev mX11_act : MD := (yX11_act, cX11_act, 2, none, wsX11_act, ({ frames := 0, cells := 0, slots := 0, locals := 0 } : Room))
set_option maxRecDepth 100000 in
theorem fa_X11_act_33 : FA mX11_act 33 11 5 "I" false := ⟨RX11, TX11, 17, rfl, by decide, by decide +kernel, by decide +kernel, rfl, rfl, rfl, fun h => by cases h⟩
set_option maxRecDepth 100000 in
theorem fa_X11_act_16 : FA mX11_act 16 11 3 "[I" true := ⟨RX11, TX11, 17, rfl, by decide, by decide +kernel, by decide +kernel, rfl, rfl, rfl, fun _ h => absurd h (by decide +kernel)⟩
set_option maxRecDepth 100000 in
theorem fa_X11_act_19 : FA mX11_act 19 11 4 "[F" true := ⟨RX11, TX11, 17, rfl, by decide, by decide +kernel, by decide +kernel, rfl, rfl, rfl, fun _ h => absurd h (by decide +kernel)⟩
set_option maxRecDepth 100000 in
theorem fa_X11_act_7 : FA mX11_act 7 11 1 "[I" true := ⟨RX11, TX11, 17, rfl, by decide, by decide +kernel, by decide +kernel, rfl, rfl, rfl, fun _ h => absurd h (by decide +kernel)⟩
set_option maxRecDepth 100000 in
theorem fa_X11_act_36 : FA mX11_act 36 11 6 "F" false := ⟨RX11, TX11, 17, rfl, by decide, by decide +kernel, by decide +kernel, rfl, rfl, rfl, fun h => by cases h⟩
abbrev mX11_hold : MD := (yX11_hold, cX11_hold, 2, none, wsX11_hold, ({ frames := 0, cells := 0, slots := 0, locals := 0 } : Room))
set_option maxRecDepth 100000 in
theorem fa_X11_hold_13 : FA mX11_hold 13 11 2 "[I" true := ⟨RX11, TX11, 17, rfl, by decide, by decide +kernel, by decide +kernel, rfl, rfl, rfl, fun _ h => absurd h (by decide +kernel)⟩
set_option maxRecDepth 100000 in
theorem fa_X11_hold_7 : FA mX11_hold 7 11 1 "[I" true := ⟨RX11, TX11, 17, rfl, by decide, by decide +kernel, by decide +kernel, rfl, rfl, rfl, fun _ h => absurd h (by decide +kernel)⟩
abbrev mX11_release : MD := (yX11_release, cX11_release, 2, none, wsX11_release, ({ frames := 0, cells := 0, slots := 0, locals := 0 } : Room))
set_option maxRecDepth 100000 in
theorem fa_X11_release_7 : FA mX11_release 7 11 1 "[I" true := ⟨RX11, TX11, 17, rfl, by decide, by decide +kernel, by decide +kernel, rfl, rfl, rfl, fun _ h => absurd h (by decide +kernel)⟩
set_option maxRecDepth 100000 in
theorem fa_X11_release_13 : FA mX11_release 13 11 2 "[I" true := ⟨RX11, TX11, 17, rfl, by decide, by decide +kernel, by decide +kernel, rfl, rfl, rfl, fun _ h => absurd h (by decide +kernel)⟩
abbrev mX11_exchange : MD := (yX11_exchange, cX11_exchange, 3, none, wsX11_exchange, ({ frames := 0, cells := 0, slots := 0, locals := 0 } : Room))
set_option maxRecDepth 100000 in
theorem fa_X11_exchange_7 : FA mX11_exchange 7 11 1 "[I" true := ⟨RX11, TX11, 17, rfl, by decide, by decide +kernel, by decide +kernel, rfl, rfl, rfl, fun _ h => absurd h (by decide +kernel)⟩
set_option maxRecDepth 100000 in
theorem fa_X11_exchange_13 : FA mX11_exchange 13 11 2 "[I" true := ⟨RX11, TX11, 17, rfl, by decide, by decide +kernel, by decide +kernel, rfl, rfl, rfl, fun _ h => absurd h (by decide +kernel)⟩
abbrev mX11_isChannel : MD := (yX11_isChannel, cX11_isChannel, 1, (some .boolean), wsX11_isChannel, ({ frames := 1, cells := 0, slots := 0, locals := 22 } : Room))
set_option maxRecDepth 100000 in
theorem cl_X11_isChannel_40 : CS mX11_isChannel 40 mX11_in 3 := ⟨gX11_isChannel_X11_in, ⟨⟨_, rfl⟩, by decide +kernel, by decide⟩⟩
abbrev mX11_of : MD := (yX11_of, cX11_of, 3, (some .int), wsX11_of, ({ frames := 0, cells := 0, slots := 0, locals := 0 } : Room))
set_option maxRecDepth 100000 in
theorem fa_X11_of_7 : FA mX11_of 7 11 1 "[I" true := ⟨RX11, TX11, 17, rfl, by decide, by decide +kernel, by decide +kernel, rfl, rfl, rfl, fun _ h => absurd h (by decide +kernel)⟩
abbrev mX11_isEntry : MD := (yX11_isEntry, cX11_isEntry, 2, (some .boolean), wsX11_isEntry, ({ frames := 1, cells := 0, slots := 0, locals := 22 } : Room))
set_option maxRecDepth 100000 in
theorem fa_X11_isEntry_7 : FA mX11_isEntry 7 11 1 "[I" true := ⟨RX11, TX11, 17, rfl, by decide, by decide +kernel, by decide +kernel, rfl, rfl, rfl, fun _ h => absurd h (by decide +kernel)⟩
set_option maxRecDepth 100000 in
theorem cl_X11_isEntry_40 : CS mX11_isEntry 40 mX11_in 3 := ⟨gX11_isEntry_X11_in, ⟨⟨_, rfl⟩, by decide +kernel, by decide⟩⟩
abbrev mX11_placeOf : MD := (yX11_placeOf, cX11_placeOf, 2, (some .int), wsX11_placeOf, ({ frames := 0, cells := 0, slots := 0, locals := 0 } : Room))
set_option maxRecDepth 100000 in
theorem fa_X11_placeOf_7 : FA mX11_placeOf 7 11 1 "[I" true := ⟨RX11, TX11, 17, rfl, by decide, by decide +kernel, by decide +kernel, rfl, rfl, rfl, fun _ h => absurd h (by decide +kernel)⟩
abbrev mX11_settleOf : MD := (yX11_settleOf, cX11_settleOf, 2, (some .int), wsX11_settleOf, ({ frames := 0, cells := 0, slots := 0, locals := 0 } : Room))
set_option maxRecDepth 100000 in
theorem fa_X11_settleOf_7 : FA mX11_settleOf 7 11 1 "[I" true := ⟨RX11, TX11, 17, rfl, by decide, by decide +kernel, by decide +kernel, rfl, rfl, rfl, fun _ h => absurd h (by decide +kernel)⟩
abbrev mX11_valueAt : MD := (yX11_valueAt, cX11_valueAt, 4, (some .int), wsX11_valueAt, ({ frames := 1, cells := 0, slots := 0, locals := 22 } : Room))
set_option maxRecDepth 100000 in
theorem cl_X11_valueAt_44 : CV mX11_valueAt 44 mX11_of 2 := ⟨gX11_valueAt_X11_of, ⟨⟨_, rfl⟩, by decide +kernel, by decide⟩⟩
set_option maxRecDepth 100000 in
theorem cl_X11_valueAt_48 : CS mX11_valueAt 48 mX11_down 2 := ⟨gX11_valueAt_X11_down, ⟨⟨_, rfl⟩, by decide +kernel, by decide⟩⟩
abbrev mX11_valueOf : MD := (yX11_valueOf, cX11_valueOf, 3, (some .int), wsX11_valueOf, ({ frames := 2, cells := 0, slots := 0, locals := 45 } : Room))
set_option maxRecDepth 100000 in
theorem fa_X11_valueOf_7 : FA mX11_valueOf 7 11 1 "[I" true := ⟨RX11, TX11, 17, rfl, by decide, by decide +kernel, by decide +kernel, rfl, rfl, rfl, fun _ h => absurd h (by decide +kernel)⟩
set_option maxRecDepth 100000 in
theorem cl_X11_valueOf_51 : CV mX11_valueOf 51 mX11_valueAt 2 := ⟨gX11_valueOf_X11_valueAt, ⟨⟨_, rfl⟩, by decide +kernel, by decide⟩⟩
abbrev mX11_slot : MD := (yX11_slot, cX11_slot, 5, (some .float), wsX11_slot, ({ frames := 3, cells := 0, slots := 0, locals := 67 } : Room))
set_option maxRecDepth 100000 in
theorem cl_X11_slot_54 : CV mX11_slot 54 mX11_valueOf 2 := ⟨gX11_slot_X11_valueOf, ⟨⟨_, rfl⟩, by decide +kernel, by decide⟩⟩
set_option maxRecDepth 100000 in
theorem cl_X11_slot_44 : CV mX11_slot 44 mX11_of 2 := ⟨gX11_slot_X11_of, ⟨⟨_, rfl⟩, by decide +kernel, by decide⟩⟩
abbrev mX11_readingBy : MD := (yX11_readingBy, cX11_readingBy, 5, (some .int), wsX11_readingBy, ({ frames := 0, cells := 0, slots := 0, locals := 0 } : Room))
set_option maxRecDepth 100000 in
theorem kc_X11_readingBy_57 : Cond.constantFloat mX11_readingBy.1.cls 57 (1148846080) ∈ y_ws mX11_readingBy := by decide +kernel
set_option maxRecDepth 100000 in
theorem kc_X11_readingBy_58 : Cond.constantFloat mX11_readingBy.1.cls 58 (1056964608) ∈ y_ws mX11_readingBy := by decide +kernel
abbrev mX11_reading : MD := (yX11_reading, cX11_reading, 2, (some .int), wsX11_reading, ({ frames := 1, cells := 0, slots := 0, locals := 24 } : Room))
set_option maxRecDepth 100000 in
theorem fa_X11_reading_7 : FA mX11_reading 7 11 1 "[I" true := ⟨RX11, TX11, 17, rfl, by decide, by decide +kernel, by decide +kernel, rfl, rfl, rfl, fun _ h => absurd h (by decide +kernel)⟩
set_option maxRecDepth 100000 in
theorem cl_X11_reading_59 : CS mX11_reading 59 mX11_readingBy 3 := ⟨gX11_reading_X11_readingBy, ⟨⟨_, rfl⟩, by decide +kernel, by decide⟩⟩
abbrev mX11_begin : MD := (yX11_begin, cX11_begin, 1, none, wsX11_begin, ({ frames := 0, cells := 0, slots := 0, locals := 0 } : Room))
set_option maxRecDepth 100000 in
theorem fa_X11_begin_36 : FA mX11_begin 36 11 6 "F" false := ⟨RX11, TX11, 17, rfl, by decide, by decide +kernel, by decide +kernel, rfl, rfl, rfl, fun h => by cases h⟩
set_option maxRecDepth 100000 in
theorem fa_X11_begin_63 : FA mX11_begin 63 11 9 "F" false := ⟨RX11, TX11, 17, rfl, by decide, by decide +kernel, by decide +kernel, rfl, rfl, rfl, fun h => by cases h⟩
set_option maxRecDepth 100000 in
theorem fa_X11_begin_7 : FA mX11_begin 7 11 1 "[I" true := ⟨RX11, TX11, 17, rfl, by decide, by decide +kernel, by decide +kernel, rfl, rfl, rfl, fun _ h => absurd h (by decide +kernel)⟩
set_option maxRecDepth 100000 in
theorem fa_X11_begin_66 : FA mX11_begin 66 11 10 "I" false := ⟨RX11, TX11, 17, rfl, by decide, by decide +kernel, by decide +kernel, rfl, rfl, rfl, fun h => by cases h⟩
abbrev mX11_carryOut : MD := (yX11_carryOut, cX11_carryOut, 5, none, wsX11_carryOut, ({ frames := 4, cells := 0, slots := 0, locals := 91 } : Room))
set_option maxRecDepth 100000 in
theorem fa_X11_carryOut_63 : FA mX11_carryOut 63 11 9 "F" false := ⟨RX11, TX11, 17, rfl, by decide, by decide +kernel, by decide +kernel, rfl, rfl, rfl, fun h => by cases h⟩
set_option maxRecDepth 100000 in
theorem fa_X11_carryOut_66 : FA mX11_carryOut 66 11 10 "I" false := ⟨RX11, TX11, 17, rfl, by decide, by decide +kernel, by decide +kernel, rfl, rfl, rfl, fun h => by cases h⟩
set_option maxRecDepth 100000 in
theorem cl_X11_carryOut_69 : CV mX11_carryOut 69 mX11_slot 3 := ⟨gX11_carryOut_X11_slot, ⟨⟨_, rfl⟩, by decide +kernel, by decide⟩⟩
set_option maxRecDepth 100000 in
theorem cl_X11_carryOut_73 : CV mX11_carryOut 73 mX11_reading 1 := ⟨gX11_carryOut_X11_reading, ⟨⟨_, rfl⟩, by decide +kernel, by decide⟩⟩
set_option maxRecDepth 100000 in
theorem fa_X11_carryOut_77 : FA mX11_carryOut 77 11 11 "I" false := ⟨RX11, TX11, 17, rfl, by decide, by decide +kernel, by decide +kernel, rfl, rfl, rfl, fun h => by cases h⟩
set_option maxRecDepth 100000 in
theorem fa_X11_carryOut_80 : FA mX11_carryOut 80 11 12 "I" false := ⟨RX11, TX11, 17, rfl, by decide, by decide +kernel, by decide +kernel, rfl, rfl, rfl, fun h => by cases h⟩
set_option maxRecDepth 100000 in
theorem cl_X11_carryOut_54 : CV mX11_carryOut 54 mX11_valueOf 2 := ⟨gX11_carryOut_X11_valueOf, ⟨⟨_, rfl⟩, by decide +kernel, by decide⟩⟩
set_option maxRecDepth 100000 in
theorem fa_X11_carryOut_83 : FA mX11_carryOut 83 11 13 "I" false := ⟨RX11, TX11, 17, rfl, by decide, by decide +kernel, by decide +kernel, rfl, rfl, rfl, fun h => by cases h⟩
abbrev mX11_carryOutTo : MD := (yX11_carryOutTo, cX11_carryOutTo, 3, none, wsX11_carryOutTo, ({ frames := 5, cells := 0, slots := 0, locals := 115 } : Room))
set_option maxRecDepth 100000 in
theorem cl_X11_carryOutTo_86 : CV mX11_carryOutTo 86 mX11_begin 0 := ⟨gX11_carryOutTo_X11_begin, ⟨⟨_, rfl⟩, by decide +kernel, by decide⟩⟩
set_option maxRecDepth 100000 in
theorem cl_X11_carryOutTo_89 : CV mX11_carryOutTo 89 mX11_placeOf 1 := ⟨gX11_carryOutTo_X11_placeOf, ⟨⟨_, rfl⟩, by decide +kernel, by decide⟩⟩
set_option maxRecDepth 100000 in
theorem cl_X11_carryOutTo_93 : CV mX11_carryOutTo 93 mX11_settleOf 1 := ⟨gX11_carryOutTo_X11_settleOf, ⟨⟨_, rfl⟩, by decide +kernel, by decide⟩⟩
set_option maxRecDepth 100000 in
theorem cl_X11_carryOutTo_96 : CV mX11_carryOutTo 96 mX11_carryOut 2 := ⟨gX11_carryOutTo_X11_carryOut, ⟨⟨_, rfl⟩, by decide +kernel, by decide⟩⟩
abbrev mX11_carries : MD := (yX11_carries, cX11_carries, 3, (some .int), wsX11_carries, ({ frames := 5, cells := 0, slots := 0, locals := 115 } : Room))
set_option maxRecDepth 100000 in
theorem cl_X11_carries_86 : CV mX11_carries 86 mX11_begin 0 := ⟨gX11_carries_X11_begin, ⟨⟨_, rfl⟩, by decide +kernel, by decide⟩⟩
set_option maxRecDepth 100000 in
theorem fa_X11_carries_7 : FA mX11_carries 7 11 1 "[I" true := ⟨RX11, TX11, 17, rfl, by decide, by decide +kernel, by decide +kernel, rfl, rfl, rfl, fun _ h => absurd h (by decide +kernel)⟩
set_option maxRecDepth 100000 in
theorem cl_X11_carries_89 : CV mX11_carries 89 mX11_placeOf 1 := ⟨gX11_carries_X11_placeOf, ⟨⟨_, rfl⟩, by decide +kernel, by decide⟩⟩
set_option maxRecDepth 100000 in
theorem cl_X11_carries_93 : CV mX11_carries 93 mX11_settleOf 1 := ⟨gX11_carries_X11_settleOf, ⟨⟨_, rfl⟩, by decide +kernel, by decide⟩⟩
set_option maxRecDepth 100000 in
theorem cl_X11_carries_96 : CV mX11_carries 96 mX11_carryOut 2 := ⟨gX11_carries_X11_carryOut, ⟨⟨_, rfl⟩, by decide +kernel, by decide⟩⟩
set_option maxRecDepth 100000 in
theorem fa_X11_carries_80 : FA mX11_carries 80 11 12 "I" false := ⟨RX11, TX11, 17, rfl, by decide, by decide +kernel, by decide +kernel, rfl, rfl, rfl, fun h => by cases h⟩
set_option maxRecDepth 100000 in
theorem cl_X11_carries_100 : CS mX11_carries 100 mX11_size 1 := ⟨gX11_carries_X11_size, ⟨⟨_, rfl⟩, by decide +kernel, by decide⟩⟩
abbrev mX11_isSource : MD := (yX11_isSource, cX11_isSource, 4, (some .boolean), wsX11_isSource, ({ frames := 1, cells := 0, slots := 0, locals := 22 } : Room))
set_option maxRecDepth 100000 in
theorem cl_X11_isSource_40 : CS mX11_isSource 40 mX11_in 3 := ⟨gX11_isSource_X11_in, ⟨⟨_, rfl⟩, by decide +kernel, by decide⟩⟩
abbrev mX11_putSource : MD := (yX11_putSource, cX11_putSource, 6, none, wsX11_putSource, ({ frames := 0, cells := 0, slots := 0, locals := 0 } : Room))
set_option maxRecDepth 100000 in
theorem fa_X11_putSource_7 : FA mX11_putSource 7 11 1 "[I" true := ⟨RX11, TX11, 17, rfl, by decide, by decide +kernel, by decide +kernel, rfl, rfl, rfl, fun _ h => absurd h (by decide +kernel)⟩
abbrev mX11_setSource : MD := (yX11_setSource, cX11_setSource, 7, (some .int), wsX11_setSource, ({ frames := 2, cells := 0, slots := 0, locals := 45 } : Room))
set_option maxRecDepth 100000 in
theorem fa_X11_setSource_29 : FA mX11_setSource 29 11 0 "I" false := ⟨RX11, TX11, 17, rfl, by decide, by decide +kernel, by decide +kernel, rfl, rfl, rfl, fun h => by cases h⟩
set_option maxRecDepth 100000 in
theorem cl_X11_setSource_103 : CS mX11_setSource 103 mX11_isChannel 1 := ⟨gX11_setSource_X11_isChannel, ⟨⟨_, rfl⟩, by decide +kernel, by decide⟩⟩
set_option maxRecDepth 100000 in
theorem cl_X11_setSource_107 : CS mX11_setSource 107 mX11_isSource 4 := ⟨gX11_setSource_X11_isSource, ⟨⟨_, rfl⟩, by decide +kernel, by decide⟩⟩
set_option maxRecDepth 100000 in
theorem kc_X11_setSource_111 : Cond.constant mX11_setSource.1.cls 111 (-10000001) ∈ y_ws mX11_setSource := by decide +kernel
set_option maxRecDepth 100000 in
theorem cl_X11_setSource_112 : CV mX11_setSource 112 mX11_act 0 := ⟨gX11_setSource_X11_act, ⟨⟨_, rfl⟩, by decide +kernel, by decide⟩⟩
set_option maxRecDepth 100000 in
theorem cl_X11_setSource_44 : CV mX11_setSource 44 mX11_of 2 := ⟨gX11_setSource_X11_of, ⟨⟨_, rfl⟩, by decide +kernel, by decide⟩⟩
set_option maxRecDepth 100000 in
theorem cl_X11_setSource_115 : CV mX11_setSource 115 mX11_putSource 5 := ⟨gX11_setSource_X11_putSource, ⟨⟨_, rfl⟩, by decide +kernel, by decide⟩⟩
abbrev mX11_put : MD := (yX11_put, cX11_put, 4, (some .int), wsX11_put, ({ frames := 1, cells := 0, slots := 0, locals := 21 } : Room))
set_option maxRecDepth 100000 in
theorem cl_X11_put_112 : CV mX11_put 112 mX11_act 0 := ⟨gX11_put_X11_act, ⟨⟨_, rfl⟩, by decide +kernel, by decide⟩⟩
set_option maxRecDepth 100000 in
theorem fa_X11_put_7 : FA mX11_put 7 11 1 "[I" true := ⟨RX11, TX11, 17, rfl, by decide, by decide +kernel, by decide +kernel, rfl, rfl, rfl, fun _ h => absurd h (by decide +kernel)⟩
abbrev mX11_setResistance : MD := (yX11_setResistance, cX11_setResistance, 3, (some .int), wsX11_setResistance, ({ frames := 2, cells := 0, slots := 0, locals := 44 } : Room))
set_option maxRecDepth 100000 in
theorem fa_X11_setResistance_29 : FA mX11_setResistance 29 11 0 "I" false := ⟨RX11, TX11, 17, rfl, by decide, by decide +kernel, by decide +kernel, rfl, rfl, rfl, fun h => by cases h⟩
set_option maxRecDepth 100000 in
theorem cl_X11_setResistance_103 : CS mX11_setResistance 103 mX11_isChannel 1 := ⟨gX11_setResistance_X11_isChannel, ⟨⟨_, rfl⟩, by decide +kernel, by decide⟩⟩
set_option maxRecDepth 100000 in
theorem cl_X11_setResistance_40 : CS mX11_setResistance 40 mX11_in 3 := ⟨gX11_setResistance_X11_in, ⟨⟨_, rfl⟩, by decide +kernel, by decide⟩⟩
set_option maxRecDepth 100000 in
theorem cl_X11_setResistance_119 : CV mX11_setResistance 119 mX11_put 2 := ⟨gX11_setResistance_X11_put, ⟨⟨_, rfl⟩, by decide +kernel, by decide⟩⟩
set_option maxRecDepth 100000 in
theorem kc_X11_setResistance_111 : Cond.constant mX11_setResistance.1.cls 111 (-10000001) ∈ y_ws mX11_setResistance := by decide +kernel
abbrev mX11_set : MD := (yX11_set, cX11_set, 4, (some .int), wsX11_set, ({ frames := 2, cells := 0, slots := 0, locals := 44 } : Room))
set_option maxRecDepth 100000 in
theorem fa_X11_set_29 : FA mX11_set 29 11 0 "I" false := ⟨RX11, TX11, 17, rfl, by decide, by decide +kernel, by decide +kernel, rfl, rfl, rfl, fun h => by cases h⟩
set_option maxRecDepth 100000 in
theorem cl_X11_set_40 : CS mX11_set 40 mX11_in 3 := ⟨gX11_set_X11_in, ⟨⟨_, rfl⟩, by decide +kernel, by decide⟩⟩
set_option maxRecDepth 100000 in
theorem cl_X11_set_119 : CV mX11_set 119 mX11_put 2 := ⟨gX11_set_X11_put, ⟨⟨_, rfl⟩, by decide +kernel, by decide⟩⟩
set_option maxRecDepth 100000 in
theorem kc_X11_set_111 : Cond.constant mX11_set.1.cls 111 (-10000001) ∈ y_ws mX11_set := by decide +kernel
abbrev mX11_insert : MD := (yX11_insert, cX11_insert, 5, none, wsX11_insert, ({ frames := 0, cells := 0, slots := 0, locals := 0 } : Room))
set_option maxRecDepth 100000 in
theorem fa_X11_insert_7 : FA mX11_insert 7 11 1 "[I" true := ⟨RX11, TX11, 17, rfl, by decide, by decide +kernel, by decide +kernel, rfl, rfl, rfl, fun _ h => absurd h (by decide +kernel)⟩
abbrev mX11_addEntry : MD := (yX11_addEntry, cX11_addEntry, 4, (some .int), wsX11_addEntry, ({ frames := 1, cells := 0, slots := 0, locals := 24 } : Room))
set_option maxRecDepth 100000 in
theorem fa_X11_addEntry_29 : FA mX11_addEntry 29 11 0 "I" false := ⟨RX11, TX11, 17, rfl, by decide, by decide +kernel, by decide +kernel, rfl, rfl, rfl, fun h => by cases h⟩
set_option maxRecDepth 100000 in
theorem cl_X11_addEntry_40 : CS mX11_addEntry 40 mX11_in 3 := ⟨gX11_addEntry_X11_in, ⟨⟨_, rfl⟩, by decide +kernel, by decide⟩⟩
set_option maxRecDepth 100000 in
theorem fa_X11_addEntry_7 : FA mX11_addEntry 7 11 1 "[I" true := ⟨RX11, TX11, 17, rfl, by decide, by decide +kernel, by decide +kernel, rfl, rfl, rfl, fun _ h => absurd h (by decide +kernel)⟩
set_option maxRecDepth 100000 in
theorem kc_X11_addEntry_111 : Cond.constant mX11_addEntry.1.cls 111 (-10000001) ∈ y_ws mX11_addEntry := by decide +kernel
set_option maxRecDepth 100000 in
theorem kc_X11_addEntry_122 : Cond.constant mX11_addEntry.1.cls 122 (-10000003) ∈ y_ws mX11_addEntry := by decide +kernel
set_option maxRecDepth 100000 in
theorem cl_X11_addEntry_112 : CV mX11_addEntry 112 mX11_act 0 := ⟨gX11_addEntry_X11_act, ⟨⟨_, rfl⟩, by decide +kernel, by decide⟩⟩
set_option maxRecDepth 100000 in
theorem cl_X11_addEntry_123 : CV mX11_addEntry 123 mX11_insert 3 := ⟨gX11_addEntry_X11_insert, ⟨⟨_, rfl⟩, by decide +kernel, by decide⟩⟩
abbrev mX11_removeEntry : MD := (yX11_removeEntry, cX11_removeEntry, 3, (some .int), wsX11_removeEntry, ({ frames := 2, cells := 0, slots := 0, locals := 43 } : Room))
set_option maxRecDepth 100000 in
theorem fa_X11_removeEntry_29 : FA mX11_removeEntry 29 11 0 "I" false := ⟨RX11, TX11, 17, rfl, by decide, by decide +kernel, by decide +kernel, rfl, rfl, rfl, fun h => by cases h⟩
set_option maxRecDepth 100000 in
theorem cl_X11_removeEntry_127 : CV mX11_removeEntry 127 mX11_isEntry 1 := ⟨gX11_removeEntry_X11_isEntry, ⟨⟨_, rfl⟩, by decide +kernel, by decide⟩⟩
set_option maxRecDepth 100000 in
theorem kc_X11_removeEntry_111 : Cond.constant mX11_removeEntry.1.cls 111 (-10000001) ∈ y_ws mX11_removeEntry := by decide +kernel
set_option maxRecDepth 100000 in
theorem cl_X11_removeEntry_112 : CV mX11_removeEntry 112 mX11_act 0 := ⟨gX11_removeEntry_X11_act, ⟨⟨_, rfl⟩, by decide +kernel, by decide⟩⟩
set_option maxRecDepth 100000 in
theorem fa_X11_removeEntry_7 : FA mX11_removeEntry 7 11 1 "[I" true := ⟨RX11, TX11, 17, rfl, by decide, by decide +kernel, by decide +kernel, rfl, rfl, rfl, fun _ h => absurd h (by decide +kernel)⟩
abbrev mX11_setSettle : MD := (yX11_setSettle, cX11_setSettle, 3, (some .int), wsX11_setSettle, ({ frames := 2, cells := 0, slots := 0, locals := 44 } : Room))
set_option maxRecDepth 100000 in
theorem fa_X11_setSettle_29 : FA mX11_setSettle 29 11 0 "I" false := ⟨RX11, TX11, 17, rfl, by decide, by decide +kernel, by decide +kernel, rfl, rfl, rfl, fun h => by cases h⟩
set_option maxRecDepth 100000 in
theorem cl_X11_setSettle_127 : CV mX11_setSettle 127 mX11_isEntry 1 := ⟨gX11_setSettle_X11_isEntry, ⟨⟨_, rfl⟩, by decide +kernel, by decide⟩⟩
set_option maxRecDepth 100000 in
theorem cl_X11_setSettle_40 : CS mX11_setSettle 40 mX11_in 3 := ⟨gX11_setSettle_X11_in, ⟨⟨_, rfl⟩, by decide +kernel, by decide⟩⟩
set_option maxRecDepth 100000 in
theorem cl_X11_setSettle_119 : CV mX11_setSettle 119 mX11_put 2 := ⟨gX11_setSettle_X11_put, ⟨⟨_, rfl⟩, by decide +kernel, by decide⟩⟩
set_option maxRecDepth 100000 in
theorem kc_X11_setSettle_111 : Cond.constant mX11_setSettle.1.cls 111 (-10000001) ∈ y_ws mX11_setSettle := by decide +kernel
abbrev mX11_keyOf : MD := (yX11_keyOf, cX11_keyOf, 4, (some .int), wsX11_keyOf, ({ frames := 3, cells := 0, slots := 0, locals := 67 } : Room))
set_option maxRecDepth 100000 in
theorem cl_X11_keyOf_89 : CV mX11_keyOf 89 mX11_placeOf 1 := ⟨gX11_keyOf_X11_placeOf, ⟨⟨_, rfl⟩, by decide +kernel, by decide⟩⟩
set_option maxRecDepth 100000 in
theorem cl_X11_keyOf_44 : CV mX11_keyOf 44 mX11_of 2 := ⟨gX11_keyOf_X11_of, ⟨⟨_, rfl⟩, by decide +kernel, by decide⟩⟩
set_option maxRecDepth 100000 in
theorem fa_X11_keyOf_7 : FA mX11_keyOf 7 11 1 "[I" true := ⟨RX11, TX11, 17, rfl, by decide, by decide +kernel, by decide +kernel, rfl, rfl, rfl, fun _ h => absurd h (by decide +kernel)⟩
set_option maxRecDepth 100000 in
theorem cl_X11_keyOf_54 : CV mX11_keyOf 54 mX11_valueOf 2 := ⟨gX11_keyOf_X11_valueOf, ⟨⟨_, rfl⟩, by decide +kernel, by decide⟩⟩
abbrev mX11_swap : MD := (yX11_swap, cX11_swap, 5, none, wsX11_swap, ({ frames := 0, cells := 0, slots := 0, locals := 0 } : Room))
set_option maxRecDepth 100000 in
theorem fa_X11_swap_7 : FA mX11_swap 7 11 1 "[I" true := ⟨RX11, TX11, 17, rfl, by decide, by decide +kernel, by decide +kernel, rfl, rfl, rfl, fun _ h => absurd h (by decide +kernel)⟩
set_option maxRecDepth 100000 in
theorem fa_X11_swap_26 : FA mX11_swap 26 11 14 "[I" true := ⟨RX11, TX11, 17, rfl, by decide, by decide +kernel, by decide +kernel, rfl, rfl, rfl, fun _ h => absurd h (by decide +kernel)⟩
abbrev mX11_orderBy : MD := (yX11_orderBy, cX11_orderBy, 5, (some .int), wsX11_orderBy, ({ frames := 4, cells := 0, slots := 0, locals := 90 } : Room))
set_option maxRecDepth 100000 in
theorem fa_X11_orderBy_7 : FA mX11_orderBy 7 11 1 "[I" true := ⟨RX11, TX11, 17, rfl, by decide, by decide +kernel, by decide +kernel, rfl, rfl, rfl, fun _ h => absurd h (by decide +kernel)⟩
set_option maxRecDepth 100000 in
theorem fa_X11_orderBy_26 : FA mX11_orderBy 26 11 14 "[I" true := ⟨RX11, TX11, 17, rfl, by decide, by decide +kernel, by decide +kernel, rfl, rfl, rfl, fun _ h => absurd h (by decide +kernel)⟩
set_option maxRecDepth 100000 in
theorem cl_X11_orderBy_130 : CV mX11_orderBy 130 mX11_swap 2 := ⟨gX11_orderBy_X11_swap, ⟨⟨_, rfl⟩, by decide +kernel, by decide⟩⟩
set_option maxRecDepth 100000 in
theorem cl_X11_orderBy_133 : CV mX11_orderBy 133 mX11_keyOf 2 := ⟨gX11_orderBy_X11_keyOf, ⟨⟨_, rfl⟩, by decide +kernel, by decide⟩⟩
abbrev mX11_order : MD := (yX11_order, cX11_order, 2, (some .int), wsX11_order, ({ frames := 5, cells := 0, slots := 0, locals := 114 } : Room))
set_option maxRecDepth 100000 in
theorem fa_X11_order_29 : FA mX11_order 29 11 0 "I" false := ⟨RX11, TX11, 17, rfl, by decide, by decide +kernel, by decide +kernel, rfl, rfl, rfl, fun h => by cases h⟩
set_option maxRecDepth 100000 in
theorem cl_X11_order_40 : CS mX11_order 40 mX11_in 3 := ⟨gX11_order_X11_in, ⟨⟨_, rfl⟩, by decide +kernel, by decide⟩⟩
set_option maxRecDepth 100000 in
theorem kc_X11_order_111 : Cond.constant mX11_order.1.cls 111 (-10000001) ∈ y_ws mX11_order := by decide +kernel
set_option maxRecDepth 100000 in
theorem cl_X11_order_112 : CV mX11_order 112 mX11_act 0 := ⟨gX11_order_X11_act, ⟨⟨_, rfl⟩, by decide +kernel, by decide⟩⟩
set_option maxRecDepth 100000 in
theorem cl_X11_order_136 : CV mX11_order 136 mX11_orderBy 1 := ⟨gX11_order_X11_orderBy, ⟨⟨_, rfl⟩, by decide +kernel, by decide⟩⟩
abbrev mX11_slots : MD := (yX11_slots, cX11_slots, 3, (some .int), wsX11_slots, ({ frames := 1, cells := 0, slots := 0, locals := 21 } : Room))
set_option maxRecDepth 100000 in
theorem fa_X11_slots_7 : FA mX11_slots 7 11 1 "[I" true := ⟨RX11, TX11, 17, rfl, by decide, by decide +kernel, by decide +kernel, rfl, rfl, rfl, fun _ h => absurd h (by decide +kernel)⟩
set_option maxRecDepth 100000 in
theorem cl_X11_slots_93 : CV mX11_slots 93 mX11_settleOf 1 := ⟨gX11_slots_X11_settleOf, ⟨⟨_, rfl⟩, by decide +kernel, by decide⟩⟩
abbrev mX11_note : MD := (yX11_note, cX11_note, 4, none, wsX11_note, ({ frames := 1, cells := 0, slots := 0, locals := 20 } : Room))
set_option maxRecDepth 100000 in
theorem fa_X11_note_7 : FA mX11_note 7 11 1 "[I" true := ⟨RX11, TX11, 17, rfl, by decide, by decide +kernel, by decide +kernel, rfl, rfl, rfl, fun _ h => absurd h (by decide +kernel)⟩
set_option maxRecDepth 100000 in
theorem fa_X11_note_66 : FA mX11_note 66 11 10 "I" false := ⟨RX11, TX11, 17, rfl, by decide, by decide +kernel, by decide +kernel, rfl, rfl, rfl, fun h => by cases h⟩
set_option maxRecDepth 100000 in
theorem fa_X11_note_77 : FA mX11_note 77 11 11 "I" false := ⟨RX11, TX11, 17, rfl, by decide, by decide +kernel, by decide +kernel, rfl, rfl, rfl, fun h => by cases h⟩
set_option maxRecDepth 100000 in
theorem fa_X11_note_80 : FA mX11_note 80 11 12 "I" false := ⟨RX11, TX11, 17, rfl, by decide, by decide +kernel, by decide +kernel, rfl, rfl, rfl, fun h => by cases h⟩
set_option maxRecDepth 100000 in
theorem fa_X11_note_83 : FA mX11_note 83 11 13 "I" false := ⟨RX11, TX11, 17, rfl, by decide, by decide +kernel, by decide +kernel, rfl, rfl, rfl, fun h => by cases h⟩
set_option maxRecDepth 100000 in
theorem cl_X11_note_100 : CS mX11_note 100 mX11_size 1 := ⟨gX11_note_X11_size, ⟨⟨_, rfl⟩, by decide +kernel, by decide⟩⟩
abbrev mX11_scan : MD := (yX11_scan, cX11_scan, 5, (some .int), wsX11_scan, ({ frames := 5, cells := 0, slots := 0, locals := 115 } : Room))
set_option maxRecDepth 100000 in
theorem fa_X11_scan_29 : FA mX11_scan 29 11 0 "I" false := ⟨RX11, TX11, 17, rfl, by decide, by decide +kernel, by decide +kernel, rfl, rfl, rfl, fun h => by cases h⟩
set_option maxRecDepth 100000 in
theorem cl_X11_scan_40 : CS mX11_scan 40 mX11_in 3 := ⟨gX11_scan_X11_in, ⟨⟨_, rfl⟩, by decide +kernel, by decide⟩⟩
set_option maxRecDepth 100000 in
theorem kc_X11_scan_111 : Cond.constant mX11_scan.1.cls 111 (-10000001) ∈ y_ws mX11_scan := by decide +kernel
set_option maxRecDepth 100000 in
theorem fa_X11_scan_7 : FA mX11_scan 7 11 1 "[I" true := ⟨RX11, TX11, 17, rfl, by decide, by decide +kernel, by decide +kernel, rfl, rfl, rfl, fun _ h => absurd h (by decide +kernel)⟩
set_option maxRecDepth 100000 in
theorem kc_X11_scan_139 : Cond.constant mX11_scan.1.cls 139 (-10000002) ∈ y_ws mX11_scan := by decide +kernel
set_option maxRecDepth 100000 in
theorem cl_X11_scan_140 : CV mX11_scan 140 mX11_slots 0 := ⟨gX11_scan_X11_slots, ⟨⟨_, rfl⟩, by decide +kernel, by decide⟩⟩
set_option maxRecDepth 100000 in
theorem kc_X11_scan_122 : Cond.constant mX11_scan.1.cls 122 (-10000003) ∈ y_ws mX11_scan := by decide +kernel
set_option maxRecDepth 100000 in
theorem cl_X11_scan_112 : CV mX11_scan 112 mX11_act 0 := ⟨gX11_scan_X11_act, ⟨⟨_, rfl⟩, by decide +kernel, by decide⟩⟩
set_option maxRecDepth 100000 in
theorem cl_X11_scan_86 : CV mX11_scan 86 mX11_begin 0 := ⟨gX11_scan_X11_begin, ⟨⟨_, rfl⟩, by decide +kernel, by decide⟩⟩
set_option maxRecDepth 100000 in
theorem cl_X11_scan_89 : CV mX11_scan 89 mX11_placeOf 1 := ⟨gX11_scan_X11_placeOf, ⟨⟨_, rfl⟩, by decide +kernel, by decide⟩⟩
set_option maxRecDepth 100000 in
theorem cl_X11_scan_93 : CV mX11_scan 93 mX11_settleOf 1 := ⟨gX11_scan_X11_settleOf, ⟨⟨_, rfl⟩, by decide +kernel, by decide⟩⟩
set_option maxRecDepth 100000 in
theorem cl_X11_scan_96 : CV mX11_scan 96 mX11_carryOut 2 := ⟨gX11_scan_X11_carryOut, ⟨⟨_, rfl⟩, by decide +kernel, by decide⟩⟩
set_option maxRecDepth 100000 in
theorem cl_X11_scan_144 : CV mX11_scan 144 mX11_note 2 := ⟨gX11_scan_X11_note, ⟨⟨_, rfl⟩, by decide +kernel, by decide⟩⟩
set_option maxRecDepth 100000 in
theorem fa_X11_scan_63 : FA mX11_scan 63 11 9 "F" false := ⟨RX11, TX11, 17, rfl, by decide, by decide +kernel, by decide +kernel, rfl, rfl, rfl, fun h => by cases h⟩
set_option maxRecDepth 100000 in
theorem fa_X11_scan_36 : FA mX11_scan 36 11 6 "F" false := ⟨RX11, TX11, 17, rfl, by decide, by decide +kernel, by decide +kernel, rfl, rfl, rfl, fun h => by cases h⟩
set_option maxRecDepth 100000 in
theorem fa_X11_scan_66 : FA mX11_scan 66 11 10 "I" false := ⟨RX11, TX11, 17, rfl, by decide, by decide +kernel, by decide +kernel, rfl, rfl, rfl, fun h => by cases h⟩
abbrev mX11_pass : MD := (yX11_pass, cX11_pass, 2, (some .int), wsX11_pass, ({ frames := 1, cells := 0, slots := 0, locals := 22 } : Room))
set_option maxRecDepth 100000 in
theorem fa_X11_pass_29 : FA mX11_pass 29 11 0 "I" false := ⟨RX11, TX11, 17, rfl, by decide, by decide +kernel, by decide +kernel, rfl, rfl, rfl, fun h => by cases h⟩
set_option maxRecDepth 100000 in
theorem cl_X11_pass_40 : CS mX11_pass 40 mX11_in 3 := ⟨gX11_pass_X11_in, ⟨⟨_, rfl⟩, by decide +kernel, by decide⟩⟩
set_option maxRecDepth 100000 in
theorem kc_X11_pass_111 : Cond.constant mX11_pass.1.cls 111 (-10000001) ∈ y_ws mX11_pass := by decide +kernel
set_option maxRecDepth 100000 in
theorem fa_X11_pass_7 : FA mX11_pass 7 11 1 "[I" true := ⟨RX11, TX11, 17, rfl, by decide, by decide +kernel, by decide +kernel, rfl, rfl, rfl, fun _ h => absurd h (by decide +kernel)⟩
set_option maxRecDepth 100000 in
theorem kc_X11_pass_122 : Cond.constant mX11_pass.1.cls 122 (-10000003) ∈ y_ws mX11_pass := by decide +kernel
set_option maxRecDepth 100000 in
theorem cl_X11_pass_112 : CV mX11_pass 112 mX11_act 0 := ⟨gX11_pass_X11_act, ⟨⟨_, rfl⟩, by decide +kernel, by decide⟩⟩
abbrev mX11_take : MD := (yX11_take, cX11_take, 4, (some .int), wsX11_take, ({ frames := 1, cells := 0, slots := 0, locals := 22 } : Room))
set_option maxRecDepth 100000 in
theorem fa_X11_take_29 : FA mX11_take 29 11 0 "I" false := ⟨RX11, TX11, 17, rfl, by decide, by decide +kernel, by decide +kernel, rfl, rfl, rfl, fun h => by cases h⟩
set_option maxRecDepth 100000 in
theorem cl_X11_take_40 : CS mX11_take 40 mX11_in 3 := ⟨gX11_take_X11_in, ⟨⟨_, rfl⟩, by decide +kernel, by decide⟩⟩
set_option maxRecDepth 100000 in
theorem kc_X11_take_111 : Cond.constant mX11_take.1.cls 111 (-10000001) ∈ y_ws mX11_take := by decide +kernel
set_option maxRecDepth 100000 in
theorem cl_X11_take_112 : CV mX11_take 112 mX11_act 0 := ⟨gX11_take_X11_act, ⟨⟨_, rfl⟩, by decide +kernel, by decide⟩⟩
set_option maxRecDepth 100000 in
theorem fa_X11_take_7 : FA mX11_take 7 11 1 "[I" true := ⟨RX11, TX11, 17, rfl, by decide, by decide +kernel, by decide +kernel, rfl, rfl, rfl, fun _ h => absurd h (by decide +kernel)⟩
abbrev mX11_restore : MD := (yX11_restore, cX11_restore, 4, (some .int), wsX11_restore, ({ frames := 1, cells := 0, slots := 0, locals := 22 } : Room))
set_option maxRecDepth 100000 in
theorem fa_X11_restore_29 : FA mX11_restore 29 11 0 "I" false := ⟨RX11, TX11, 17, rfl, by decide, by decide +kernel, by decide +kernel, rfl, rfl, rfl, fun h => by cases h⟩
set_option maxRecDepth 100000 in
theorem cl_X11_restore_40 : CS mX11_restore 40 mX11_in 3 := ⟨gX11_restore_X11_in, ⟨⟨_, rfl⟩, by decide +kernel, by decide⟩⟩
set_option maxRecDepth 100000 in
theorem kc_X11_restore_111 : Cond.constant mX11_restore.1.cls 111 (-10000001) ∈ y_ws mX11_restore := by decide +kernel
set_option maxRecDepth 100000 in
theorem fa_X11_restore_7 : FA mX11_restore 7 11 1 "[I" true := ⟨RX11, TX11, 17, rfl, by decide, by decide +kernel, by decide +kernel, rfl, rfl, rfl, fun _ h => absurd h (by decide +kernel)⟩
set_option maxRecDepth 100000 in
theorem kc_X11_restore_139 : Cond.constant mX11_restore.1.cls 139 (-10000002) ∈ y_ws mX11_restore := by decide +kernel
set_option maxRecDepth 100000 in
theorem cl_X11_restore_112 : CV mX11_restore 112 mX11_act 0 := ⟨gX11_restore_X11_act, ⟨⟨_, rfl⟩, by decide +kernel, by decide⟩⟩
abbrev mX11_undo : MD := (yX11_undo, cX11_undo, 2, (some .int), wsX11_undo, ({ frames := 0, cells := 0, slots := 0, locals := 0 } : Room))
set_option maxRecDepth 100000 in
theorem fa_X11_undo_29 : FA mX11_undo 29 11 0 "I" false := ⟨RX11, TX11, 17, rfl, by decide, by decide +kernel, by decide +kernel, rfl, rfl, rfl, fun h => by cases h⟩
set_option maxRecDepth 100000 in
theorem fa_X11_undo_33 : FA mX11_undo 33 11 5 "I" false := ⟨RX11, TX11, 17, rfl, by decide, by decide +kernel, by decide +kernel, rfl, rfl, rfl, fun h => by cases h⟩
set_option maxRecDepth 100000 in
theorem kc_X11_undo_139 : Cond.constant mX11_undo.1.cls 139 (-10000002) ∈ y_ws mX11_undo := by decide +kernel
set_option maxRecDepth 100000 in
theorem fa_X11_undo_7 : FA mX11_undo 7 11 1 "[I" true := ⟨RX11, TX11, 17, rfl, by decide, by decide +kernel, by decide +kernel, rfl, rfl, rfl, fun _ h => absurd h (by decide +kernel)⟩
set_option maxRecDepth 100000 in
theorem fa_X11_undo_16 : FA mX11_undo 16 11 3 "[I" true := ⟨RX11, TX11, 17, rfl, by decide, by decide +kernel, by decide +kernel, rfl, rfl, rfl, fun _ h => absurd h (by decide +kernel)⟩
set_option maxRecDepth 100000 in
theorem fa_X11_undo_19 : FA mX11_undo 19 11 4 "[F" true := ⟨RX11, TX11, 17, rfl, by decide, by decide +kernel, by decide +kernel, rfl, rfl, rfl, fun _ h => absurd h (by decide +kernel)⟩
set_option maxRecDepth 100000 in
theorem fa_X11_undo_36 : FA mX11_undo 36 11 6 "F" false := ⟨RX11, TX11, 17, rfl, by decide, by decide +kernel, by decide +kernel, rfl, rfl, rfl, fun h => by cases h⟩
abbrev mX11_append : MD := (yX11_append, cX11_append, 2, (some .int), wsX11_append, ({ frames := 1, cells := 0, slots := 0, locals := 22 } : Room))
set_option maxRecDepth 100000 in
theorem fa_X11_append_29 : FA mX11_append 29 11 0 "I" false := ⟨RX11, TX11, 17, rfl, by decide, by decide +kernel, by decide +kernel, rfl, rfl, rfl, fun h => by cases h⟩
set_option maxRecDepth 100000 in
theorem cl_X11_append_40 : CS mX11_append 40 mX11_in 3 := ⟨gX11_append_X11_in, ⟨⟨_, rfl⟩, by decide +kernel, by decide⟩⟩
set_option maxRecDepth 100000 in
theorem kc_X11_append_111 : Cond.constant mX11_append.1.cls 111 (-10000001) ∈ y_ws mX11_append := by decide +kernel
set_option maxRecDepth 100000 in
theorem fa_X11_append_147 : FA mX11_append 147 11 8 "I" false := ⟨RX11, TX11, 17, rfl, by decide, by decide +kernel, by decide +kernel, rfl, rfl, rfl, fun h => by cases h⟩
set_option maxRecDepth 100000 in
theorem kc_X11_append_122 : Cond.constant mX11_append.1.cls 122 (-10000003) ∈ y_ws mX11_append := by decide +kernel
set_option maxRecDepth 100000 in
theorem fa_X11_append_23 : FA mX11_append 23 11 7 "[I" true := ⟨RX11, TX11, 17, rfl, by decide, by decide +kernel, by decide +kernel, rfl, rfl, rfl, fun _ h => absurd h (by decide +kernel)⟩
abbrev mX11_clearText : MD := (yX11_clearText, cX11_clearText, 2, (some .int), wsX11_clearText, ({ frames := 0, cells := 0, slots := 0, locals := 0 } : Room))
set_option maxRecDepth 100000 in
theorem fa_X11_clearText_29 : FA mX11_clearText 29 11 0 "I" false := ⟨RX11, TX11, 17, rfl, by decide, by decide +kernel, by decide +kernel, rfl, rfl, rfl, fun h => by cases h⟩
set_option maxRecDepth 100000 in
theorem fa_X11_clearText_147 : FA mX11_clearText 147 11 8 "I" false := ⟨RX11, TX11, 17, rfl, by decide, by decide +kernel, by decide +kernel, rfl, rfl, rfl, fun h => by cases h⟩
abbrev mX11_here : MD := (yX11_here, cX11_here, 1, (some .int), wsX11_here, ({ frames := 0, cells := 0, slots := 0, locals := 0 } : Room))
set_option maxRecDepth 100000 in
theorem fa_X11_here_150 : FA mX11_here 150 11 15 "I" false := ⟨RX11, TX11, 17, rfl, by decide, by decide +kernel, by decide +kernel, rfl, rfl, rfl, fun h => by cases h⟩
set_option maxRecDepth 100000 in
theorem fa_X11_here_147 : FA mX11_here 147 11 8 "I" false := ⟨RX11, TX11, 17, rfl, by decide, by decide +kernel, by decide +kernel, rfl, rfl, rfl, fun h => by cases h⟩
set_option maxRecDepth 100000 in
theorem fa_X11_here_23 : FA mX11_here 23 11 7 "[I" true := ⟨RX11, TX11, 17, rfl, by decide, by decide +kernel, by decide +kernel, rfl, rfl, rfl, fun _ h => absurd h (by decide +kernel)⟩
abbrev mX11_reads : MD := (yX11_reads, cX11_reads, 7, (some .boolean), wsX11_reads, ({ frames := 1, cells := 0, slots := 0, locals := 22 } : Room))
set_option maxRecDepth 100000 in
theorem cl_X11_reads_153 : CV mX11_reads 153 mX11_here 0 := ⟨gX11_reads_X11_here, ⟨⟨_, rfl⟩, by decide +kernel, by decide⟩⟩
set_option maxRecDepth 100000 in
theorem fa_X11_reads_150 : FA mX11_reads 150 11 15 "I" false := ⟨RX11, TX11, 17, rfl, by decide, by decide +kernel, by decide +kernel, rfl, rfl, rfl, fun h => by cases h⟩
set_option maxRecDepth 100000 in
theorem fa_X11_reads_147 : FA mX11_reads 147 11 8 "I" false := ⟨RX11, TX11, 17, rfl, by decide, by decide +kernel, by decide +kernel, rfl, rfl, rfl, fun h => by cases h⟩
set_option maxRecDepth 100000 in
theorem fa_X11_reads_23 : FA mX11_reads 23 11 7 "[I" true := ⟨RX11, TX11, 17, rfl, by decide, by decide +kernel, by decide +kernel, rfl, rfl, rfl, fun _ h => absurd h (by decide +kernel)⟩
set_option maxRecDepth 100000 in
theorem cl_X11_reads_40 : CS mX11_reads 40 mX11_in 3 := ⟨gX11_reads_X11_in, ⟨⟨_, rfl⟩, by decide +kernel, by decide⟩⟩
set_option maxRecDepth 100000 in
theorem kc_X11_reads_156 : Cond.constant mX11_reads.1.cls 156 (100000) ∈ y_ws mX11_reads := by decide +kernel
set_option maxRecDepth 100000 in
theorem fa_X11_reads_157 : FA mX11_reads 157 11 16 "I" false := ⟨RX11, TX11, 17, rfl, by decide, by decide +kernel, by decide +kernel, rfl, rfl, rfl, fun h => by cases h⟩
abbrev mX11_takes : MD := (yX11_takes, cX11_takes, 3, (some .boolean), wsX11_takes, ({ frames := 1, cells := 0, slots := 0, locals := 20 } : Room))
set_option maxRecDepth 100000 in
theorem cl_X11_takes_153 : CV mX11_takes 153 mX11_here 0 := ⟨gX11_takes_X11_here, ⟨⟨_, rfl⟩, by decide +kernel, by decide⟩⟩
set_option maxRecDepth 100000 in
theorem fa_X11_takes_150 : FA mX11_takes 150 11 15 "I" false := ⟨RX11, TX11, 17, rfl, by decide, by decide +kernel, by decide +kernel, rfl, rfl, rfl, fun h => by cases h⟩
abbrev mX11_readsEntry : MD := (yX11_readsEntry, cX11_readsEntry, 3, (some .boolean), wsX11_readsEntry, ({ frames := 2, cells := 0, slots := 0, locals := 48 } : Room))
set_option maxRecDepth 100000 in
theorem cl_X11_readsEntry_153 : CV mX11_readsEntry 153 mX11_here 0 := ⟨gX11_readsEntry_X11_here, ⟨⟨_, rfl⟩, by decide +kernel, by decide⟩⟩
set_option maxRecDepth 100000 in
theorem fa_X11_readsEntry_7 : FA mX11_readsEntry 7 11 1 "[I" true := ⟨RX11, TX11, 17, rfl, by decide, by decide +kernel, by decide +kernel, rfl, rfl, rfl, fun _ h => absurd h (by decide +kernel)⟩
set_option maxRecDepth 100000 in
theorem fa_X11_readsEntry_150 : FA mX11_readsEntry 150 11 15 "I" false := ⟨RX11, TX11, 17, rfl, by decide, by decide +kernel, by decide +kernel, rfl, rfl, rfl, fun h => by cases h⟩
set_option maxRecDepth 100000 in
theorem cl_X11_readsEntry_160 : CV mX11_readsEntry 160 mX11_reads 2 := ⟨gX11_readsEntry_X11_reads, ⟨⟨_, rfl⟩, by decide +kernel, by decide⟩⟩
set_option maxRecDepth 100000 in
theorem fa_X11_readsEntry_157 : FA mX11_readsEntry 157 11 16 "I" false := ⟨RX11, TX11, 17, rfl, by decide, by decide +kernel, by decide +kernel, rfl, rfl, rfl, fun h => by cases h⟩
set_option maxRecDepth 100000 in
theorem cl_X11_readsEntry_164 : CV mX11_readsEntry 164 mX11_takes 1 := ⟨gX11_readsEntry_X11_takes, ⟨⟨_, rfl⟩, by decide +kernel, by decide⟩⟩
set_option maxRecDepth 100000 in
theorem cl_X11_readsEntry_123 : CV mX11_readsEntry 123 mX11_insert 3 := ⟨gX11_readsEntry_X11_insert, ⟨⟨_, rfl⟩, by decide +kernel, by decide⟩⟩
abbrev mX11_readsResistance : MD := (yX11_readsResistance, cX11_readsResistance, 2, (some .boolean), wsX11_readsResistance, ({ frames := 2, cells := 0, slots := 0, locals := 48 } : Room))
set_option maxRecDepth 100000 in
theorem cl_X11_readsResistance_160 : CV mX11_readsResistance 160 mX11_reads 2 := ⟨gX11_readsResistance_X11_reads, ⟨⟨_, rfl⟩, by decide +kernel, by decide⟩⟩
set_option maxRecDepth 100000 in
theorem fa_X11_readsResistance_7 : FA mX11_readsResistance 7 11 1 "[I" true := ⟨RX11, TX11, 17, rfl, by decide, by decide +kernel, by decide +kernel, rfl, rfl, rfl, fun _ h => absurd h (by decide +kernel)⟩
set_option maxRecDepth 100000 in
theorem fa_X11_readsResistance_157 : FA mX11_readsResistance 157 11 16 "I" false := ⟨RX11, TX11, 17, rfl, by decide, by decide +kernel, by decide +kernel, rfl, rfl, rfl, fun h => by cases h⟩
set_option maxRecDepth 100000 in
theorem cl_X11_readsResistance_164 : CV mX11_readsResistance 164 mX11_takes 1 := ⟨gX11_readsResistance_X11_takes, ⟨⟨_, rfl⟩, by decide +kernel, by decide⟩⟩
abbrev mX11_readsRising : MD := (yX11_readsRising, cX11_readsRising, 4, (some .boolean), wsX11_readsRising, ({ frames := 2, cells := 0, slots := 0, locals := 48 } : Room))
set_option maxRecDepth 100000 in
theorem cl_X11_readsRising_160 : CV mX11_readsRising 160 mX11_reads 2 := ⟨gX11_readsRising_X11_reads, ⟨⟨_, rfl⟩, by decide +kernel, by decide⟩⟩
set_option maxRecDepth 100000 in
theorem fa_X11_readsRising_157 : FA mX11_readsRising 157 11 16 "I" false := ⟨RX11, TX11, 17, rfl, by decide, by decide +kernel, by decide +kernel, rfl, rfl, rfl, fun h => by cases h⟩
set_option maxRecDepth 100000 in
theorem cl_X11_readsRising_115 : CV mX11_readsRising 115 mX11_putSource 5 := ⟨gX11_readsRising_X11_putSource, ⟨⟨_, rfl⟩, by decide +kernel, by decide⟩⟩
set_option maxRecDepth 100000 in
theorem cl_X11_readsRising_164 : CV mX11_readsRising 164 mX11_takes 1 := ⟨gX11_readsRising_X11_takes, ⟨⟨_, rfl⟩, by decide +kernel, by decide⟩⟩
abbrev mX11_readsJumping : MD := (yX11_readsJumping, cX11_readsJumping, 4, (some .boolean), wsX11_readsJumping, ({ frames := 2, cells := 0, slots := 0, locals := 48 } : Room))
set_option maxRecDepth 100000 in
theorem cl_X11_readsJumping_160 : CV mX11_readsJumping 160 mX11_reads 2 := ⟨gX11_readsJumping_X11_reads, ⟨⟨_, rfl⟩, by decide +kernel, by decide⟩⟩
set_option maxRecDepth 100000 in
theorem fa_X11_readsJumping_157 : FA mX11_readsJumping 157 11 16 "I" false := ⟨RX11, TX11, 17, rfl, by decide, by decide +kernel, by decide +kernel, rfl, rfl, rfl, fun h => by cases h⟩
set_option maxRecDepth 100000 in
theorem cl_X11_readsJumping_164 : CV mX11_readsJumping 164 mX11_takes 1 := ⟨gX11_readsJumping_X11_takes, ⟨⟨_, rfl⟩, by decide +kernel, by decide⟩⟩
set_option maxRecDepth 100000 in
theorem cl_X11_readsJumping_115 : CV mX11_readsJumping 115 mX11_putSource 5 := ⟨gX11_readsJumping_X11_putSource, ⟨⟨_, rfl⟩, by decide +kernel, by decide⟩⟩
abbrev mX11_readsSource : MD := (yX11_readsSource, cX11_readsSource, 3, (some .boolean), wsX11_readsSource, ({ frames := 3, cells := 0, slots := 0, locals := 71 } : Room))
set_option maxRecDepth 100000 in
theorem cl_X11_readsSource_160 : CV mX11_readsSource 160 mX11_reads 2 := ⟨gX11_readsSource_X11_reads, ⟨⟨_, rfl⟩, by decide +kernel, by decide⟩⟩
set_option maxRecDepth 100000 in
theorem fa_X11_readsSource_157 : FA mX11_readsSource 157 11 16 "I" false := ⟨RX11, TX11, 17, rfl, by decide, by decide +kernel, by decide +kernel, rfl, rfl, rfl, fun h => by cases h⟩
set_option maxRecDepth 100000 in
theorem cl_X11_readsSource_164 : CV mX11_readsSource 164 mX11_takes 1 := ⟨gX11_readsSource_X11_takes, ⟨⟨_, rfl⟩, by decide +kernel, by decide⟩⟩
set_option maxRecDepth 100000 in
theorem cl_X11_readsSource_167 : CV mX11_readsSource 167 mX11_readsRising 3 := ⟨gX11_readsSource_X11_readsRising, ⟨⟨_, rfl⟩, by decide +kernel, by decide⟩⟩
set_option maxRecDepth 100000 in
theorem cl_X11_readsSource_170 : CV mX11_readsSource 170 mX11_readsJumping 2 := ⟨gX11_readsSource_X11_readsJumping, ⟨⟨_, rfl⟩, by decide +kernel, by decide⟩⟩
set_option maxRecDepth 100000 in
theorem cl_X11_readsSource_115 : CV mX11_readsSource 115 mX11_putSource 5 := ⟨gX11_readsSource_X11_putSource, ⟨⟨_, rfl⟩, by decide +kernel, by decide⟩⟩
abbrev mX11_readsItem : MD := (yX11_readsItem, cX11_readsItem, 2, (some .boolean), wsX11_readsItem, ({ frames := 4, cells := 0, slots := 0, locals := 93 } : Room))
set_option maxRecDepth 100000 in
theorem cl_X11_readsItem_164 : CV mX11_readsItem 164 mX11_takes 1 := ⟨gX11_readsItem_X11_takes, ⟨⟨_, rfl⟩, by decide +kernel, by decide⟩⟩
set_option maxRecDepth 100000 in
theorem cl_X11_readsItem_173 : CV mX11_readsItem 173 mX11_readsEntry 1 := ⟨gX11_readsItem_X11_readsEntry, ⟨⟨_, rfl⟩, by decide +kernel, by decide⟩⟩
set_option maxRecDepth 100000 in
theorem cl_X11_readsItem_160 : CV mX11_readsItem 160 mX11_reads 2 := ⟨gX11_readsItem_X11_reads, ⟨⟨_, rfl⟩, by decide +kernel, by decide⟩⟩
set_option maxRecDepth 100000 in
theorem fa_X11_readsItem_157 : FA mX11_readsItem 157 11 16 "I" false := ⟨RX11, TX11, 17, rfl, by decide, by decide +kernel, by decide +kernel, rfl, rfl, rfl, fun h => by cases h⟩
set_option maxRecDepth 100000 in
theorem cl_X11_readsItem_176 : CV mX11_readsItem 176 mX11_readsSource 1 := ⟨gX11_readsItem_X11_readsSource, ⟨⟨_, rfl⟩, by decide +kernel, by decide⟩⟩
set_option maxRecDepth 100000 in
theorem cl_X11_readsItem_179 : CV mX11_readsItem 179 mX11_readsResistance 1 := ⟨gX11_readsItem_X11_readsResistance, ⟨⟨_, rfl⟩, by decide +kernel, by decide⟩⟩
abbrev mX11_load : MD := (yX11_load, cX11_load, 3, (some .int), wsX11_load, ({ frames := 5, cells := 0, slots := 0, locals := 114 } : Room))
set_option maxRecDepth 100000 in
theorem fa_X11_load_29 : FA mX11_load 29 11 0 "I" false := ⟨RX11, TX11, 17, rfl, by decide, by decide +kernel, by decide +kernel, rfl, rfl, rfl, fun h => by cases h⟩
set_option maxRecDepth 100000 in
theorem cl_X11_load_182 : CV mX11_load 182 mX11_hold 0 := ⟨gX11_load_X11_hold, ⟨⟨_, rfl⟩, by decide +kernel, by decide⟩⟩
set_option maxRecDepth 100000 in
theorem fa_X11_load_150 : FA mX11_load 150 11 15 "I" false := ⟨RX11, TX11, 17, rfl, by decide, by decide +kernel, by decide +kernel, rfl, rfl, rfl, fun h => by cases h⟩
set_option maxRecDepth 100000 in
theorem cl_X11_load_153 : CV mX11_load 153 mX11_here 0 := ⟨gX11_load_X11_here, ⟨⟨_, rfl⟩, by decide +kernel, by decide⟩⟩
set_option maxRecDepth 100000 in
theorem cl_X11_load_185 : CV mX11_load 185 mX11_readsItem 0 := ⟨gX11_load_X11_readsItem, ⟨⟨_, rfl⟩, by decide +kernel, by decide⟩⟩
set_option maxRecDepth 100000 in
theorem cl_X11_load_189 : CV mX11_load 189 mX11_exchange 0 := ⟨gX11_load_X11_exchange, ⟨⟨_, rfl⟩, by decide +kernel, by decide⟩⟩
set_option maxRecDepth 100000 in
theorem kc_X11_load_192 : Cond.constant mX11_load.1.cls 192 (-20000000) ∈ y_ws mX11_load := by decide +kernel
set_option maxRecDepth 100000 in
theorem cl_X11_load_112 : CV mX11_load 112 mX11_act 0 := ⟨gX11_load_X11_act, ⟨⟨_, rfl⟩, by decide +kernel, by decide⟩⟩
set_option maxRecDepth 100000 in
theorem fa_X11_load_147 : FA mX11_load 147 11 8 "I" false := ⟨RX11, TX11, 17, rfl, by decide, by decide +kernel, by decide +kernel, rfl, rfl, rfl, fun h => by cases h⟩
abbrev mX11_kinds : MD := (yX11_kinds, cX11_kinds, 4, (some .int), wsX11_kinds, ({ frames := 1, cells := 0, slots := 0, locals := 22 } : Room))
set_option maxRecDepth 100000 in
theorem cl_X11_kinds_44 : CV mX11_kinds 44 mX11_of 2 := ⟨gX11_kinds_X11_of, ⟨⟨_, rfl⟩, by decide +kernel, by decide⟩⟩
abbrev mX11_count : MD := (yX11_count, cX11_count, 2, (some .int), wsX11_count, ({ frames := 2, cells := 0, slots := 0, locals := 45 } : Room))
set_option maxRecDepth 100000 in
theorem fa_X11_count_29 : FA mX11_count 29 11 0 "I" false := ⟨RX11, TX11, 17, rfl, by decide, by decide +kernel, by decide +kernel, rfl, rfl, rfl, fun h => by cases h⟩
set_option maxRecDepth 100000 in
theorem fa_X11_count_7 : FA mX11_count 7 11 1 "[I" true := ⟨RX11, TX11, 17, rfl, by decide, by decide +kernel, by decide +kernel, rfl, rfl, rfl, fun _ h => absurd h (by decide +kernel)⟩
set_option maxRecDepth 100000 in
theorem cl_X11_count_140 : CV mX11_count 140 mX11_slots 0 := ⟨gX11_count_X11_slots, ⟨⟨_, rfl⟩, by decide +kernel, by decide⟩⟩
set_option maxRecDepth 100000 in
theorem fa_X11_count_33 : FA mX11_count 33 11 5 "I" false := ⟨RX11, TX11, 17, rfl, by decide, by decide +kernel, by decide +kernel, rfl, rfl, rfl, fun h => by cases h⟩
set_option maxRecDepth 100000 in
theorem fa_X11_count_147 : FA mX11_count 147 11 8 "I" false := ⟨RX11, TX11, 17, rfl, by decide, by decide +kernel, by decide +kernel, rfl, rfl, rfl, fun h => by cases h⟩
set_option maxRecDepth 100000 in
theorem cl_X11_count_193 : CV mX11_count 193 mX11_kinds 1 := ⟨gX11_count_X11_kinds, ⟨⟨_, rfl⟩, by decide +kernel, by decide⟩⟩
set_option maxRecDepth 100000 in
theorem kc_X11_count_111 : Cond.constant mX11_count.1.cls 111 (-10000001) ∈ y_ws mX11_count := by decide +kernel
abbrev mX11_corrected : MD := (yX11_corrected, cX11_corrected, 5, (some .int), wsX11_corrected, ({ frames := 1, cells := 0, slots := 0, locals := 21 } : Room))
set_option maxRecDepth 100000 in
theorem fa_X11_corrected_7 : FA mX11_corrected 7 11 1 "[I" true := ⟨RX11, TX11, 17, rfl, by decide, by decide +kernel, by decide +kernel, rfl, rfl, rfl, fun _ h => absurd h (by decide +kernel)⟩
set_option maxRecDepth 100000 in
theorem kc_X11_corrected_196 : Cond.constant mX11_corrected.1.cls 196 (-10000009) ∈ y_ws mX11_corrected := by decide +kernel
set_option maxRecDepth 100000 in
theorem cl_X11_corrected_48 : CS mX11_corrected 48 mX11_down 2 := ⟨gX11_corrected_X11_down, ⟨⟨_, rfl⟩, by decide +kernel, by decide⟩⟩
abbrev mX11_entriesOf : MD := (yX11_entriesOf, cX11_entriesOf, 4, (some .int), wsX11_entriesOf, ({ frames := 1, cells := 0, slots := 0, locals := 21 } : Room))
set_option maxRecDepth 100000 in
theorem fa_X11_entriesOf_7 : FA mX11_entriesOf 7 11 1 "[I" true := ⟨RX11, TX11, 17, rfl, by decide, by decide +kernel, by decide +kernel, rfl, rfl, rfl, fun _ h => absurd h (by decide +kernel)⟩
set_option maxRecDepth 100000 in
theorem cl_X11_entriesOf_89 : CV mX11_entriesOf 89 mX11_placeOf 1 := ⟨gX11_entriesOf_X11_placeOf, ⟨⟨_, rfl⟩, by decide +kernel, by decide⟩⟩
abbrev mX11_channel : MD := (yX11_channel, cX11_channel, 3, (some .int), wsX11_channel, ({ frames := 2, cells := 0, slots := 0, locals := 45 } : Room))
set_option maxRecDepth 100000 in
theorem fa_X11_channel_29 : FA mX11_channel 29 11 0 "I" false := ⟨RX11, TX11, 17, rfl, by decide, by decide +kernel, by decide +kernel, rfl, rfl, rfl, fun h => by cases h⟩
set_option maxRecDepth 100000 in
theorem cl_X11_channel_103 : CS mX11_channel 103 mX11_isChannel 1 := ⟨gX11_channel_X11_isChannel, ⟨⟨_, rfl⟩, by decide +kernel, by decide⟩⟩
set_option maxRecDepth 100000 in
theorem cl_X11_channel_40 : CS mX11_channel 40 mX11_in 3 := ⟨gX11_channel_X11_in, ⟨⟨_, rfl⟩, by decide +kernel, by decide⟩⟩
set_option maxRecDepth 100000 in
theorem kc_X11_channel_111 : Cond.constant mX11_channel.1.cls 111 (-10000001) ∈ y_ws mX11_channel := by decide +kernel
set_option maxRecDepth 100000 in
theorem fa_X11_channel_7 : FA mX11_channel 7 11 1 "[I" true := ⟨RX11, TX11, 17, rfl, by decide, by decide +kernel, by decide +kernel, rfl, rfl, rfl, fun _ h => absurd h (by decide +kernel)⟩
set_option maxRecDepth 100000 in
theorem kc_X11_channel_196 : Cond.constant mX11_channel.1.cls 196 (-10000009) ∈ y_ws mX11_channel := by decide +kernel
set_option maxRecDepth 100000 in
theorem cl_X11_channel_197 : CV mX11_channel 197 mX11_corrected 1 := ⟨gX11_channel_X11_corrected, ⟨⟨_, rfl⟩, by decide +kernel, by decide⟩⟩
set_option maxRecDepth 100000 in
theorem cl_X11_channel_200 : CV mX11_channel 200 mX11_entriesOf 1 := ⟨gX11_channel_X11_entriesOf, ⟨⟨_, rfl⟩, by decide +kernel, by decide⟩⟩
set_option maxRecDepth 100000 in
theorem cl_X11_channel_44 : CV mX11_channel 44 mX11_of 2 := ⟨gX11_channel_X11_of, ⟨⟨_, rfl⟩, by decide +kernel, by decide⟩⟩
abbrev mX11_entry : MD := (yX11_entry, cX11_entry, 3, (some .int), wsX11_entry, ({ frames := 1, cells := 0, slots := 0, locals := 22 } : Room))
set_option maxRecDepth 100000 in
theorem fa_X11_entry_29 : FA mX11_entry 29 11 0 "I" false := ⟨RX11, TX11, 17, rfl, by decide, by decide +kernel, by decide +kernel, rfl, rfl, rfl, fun h => by cases h⟩
set_option maxRecDepth 100000 in
theorem cl_X11_entry_40 : CS mX11_entry 40 mX11_in 3 := ⟨gX11_entry_X11_in, ⟨⟨_, rfl⟩, by decide +kernel, by decide⟩⟩
set_option maxRecDepth 100000 in
theorem kc_X11_entry_111 : Cond.constant mX11_entry.1.cls 111 (-10000001) ∈ y_ws mX11_entry := by decide +kernel
set_option maxRecDepth 100000 in
theorem fa_X11_entry_7 : FA mX11_entry 7 11 1 "[I" true := ⟨RX11, TX11, 17, rfl, by decide, by decide +kernel, by decide +kernel, rfl, rfl, rfl, fun _ h => absurd h (by decide +kernel)⟩
set_option maxRecDepth 100000 in
theorem kc_X11_entry_196 : Cond.constant mX11_entry.1.cls 196 (-10000009) ∈ y_ws mX11_entry := by decide +kernel
abbrev mX11_value : MD := (yX11_value, cX11_value, 3, (some .int), wsX11_value, ({ frames := 2, cells := 0, slots := 0, locals := 45 } : Room))
set_option maxRecDepth 100000 in
theorem fa_X11_value_29 : FA mX11_value 29 11 0 "I" false := ⟨RX11, TX11, 17, rfl, by decide, by decide +kernel, by decide +kernel, rfl, rfl, rfl, fun h => by cases h⟩
set_option maxRecDepth 100000 in
theorem cl_X11_value_103 : CS mX11_value 103 mX11_isChannel 1 := ⟨gX11_value_X11_isChannel, ⟨⟨_, rfl⟩, by decide +kernel, by decide⟩⟩
set_option maxRecDepth 100000 in
theorem cl_X11_value_40 : CS mX11_value 40 mX11_in 3 := ⟨gX11_value_X11_in, ⟨⟨_, rfl⟩, by decide +kernel, by decide⟩⟩
set_option maxRecDepth 100000 in
theorem cl_X11_value_51 : CV mX11_value 51 mX11_valueAt 2 := ⟨gX11_value_X11_valueAt, ⟨⟨_, rfl⟩, by decide +kernel, by decide⟩⟩
set_option maxRecDepth 100000 in
theorem kc_X11_value_111 : Cond.constant mX11_value.1.cls 111 (-10000001) ∈ y_ws mX11_value := by decide +kernel
abbrev mX11_sample : MD := (yX11_sample, cX11_sample, 3, (some .int), wsX11_sample, ({ frames := 1, cells := 0, slots := 0, locals := 22 } : Room))
set_option maxRecDepth 100000 in
theorem fa_X11_sample_29 : FA mX11_sample 29 11 0 "I" false := ⟨RX11, TX11, 17, rfl, by decide, by decide +kernel, by decide +kernel, rfl, rfl, rfl, fun h => by cases h⟩
set_option maxRecDepth 100000 in
theorem cl_X11_sample_40 : CS mX11_sample 40 mX11_in 3 := ⟨gX11_sample_X11_in, ⟨⟨_, rfl⟩, by decide +kernel, by decide⟩⟩
set_option maxRecDepth 100000 in
theorem kc_X11_sample_111 : Cond.constant mX11_sample.1.cls 111 (-10000001) ∈ y_ws mX11_sample := by decide +kernel
set_option maxRecDepth 100000 in
theorem fa_X11_sample_7 : FA mX11_sample 7 11 1 "[I" true := ⟨RX11, TX11, 17, rfl, by decide, by decide +kernel, by decide +kernel, rfl, rfl, rfl, fun _ h => absurd h (by decide +kernel)⟩
set_option maxRecDepth 100000 in
theorem kc_X11_sample_196 : Cond.constant mX11_sample.1.cls 196 (-10000009) ∈ y_ws mX11_sample := by decide +kernel
abbrev mX11_account : MD := (yX11_account, cX11_account, 2, (some .int), wsX11_account, ({ frames := 1, cells := 0, slots := 0, locals := 22 } : Room))
set_option maxRecDepth 100000 in
theorem fa_X11_account_29 : FA mX11_account 29 11 0 "I" false := ⟨RX11, TX11, 17, rfl, by decide, by decide +kernel, by decide +kernel, rfl, rfl, rfl, fun h => by cases h⟩
set_option maxRecDepth 100000 in
theorem cl_X11_account_40 : CS mX11_account 40 mX11_in 3 := ⟨gX11_account_X11_in, ⟨⟨_, rfl⟩, by decide +kernel, by decide⟩⟩
set_option maxRecDepth 100000 in
theorem kc_X11_account_111 : Cond.constant mX11_account.1.cls 111 (-10000001) ∈ y_ws mX11_account := by decide +kernel
set_option maxRecDepth 100000 in
theorem fa_X11_account_7 : FA mX11_account 7 11 1 "[I" true := ⟨RX11, TX11, 17, rfl, by decide, by decide +kernel, by decide +kernel, rfl, rfl, rfl, fun _ h => absurd h (by decide +kernel)⟩
abbrev mX11_held : MD := (yX11_held, cX11_held, 2, (some .int), wsX11_held, ({ frames := 2, cells := 0, slots := 0, locals := 45 } : Room))
set_option maxRecDepth 100000 in
theorem fa_X11_held_29 : FA mX11_held 29 11 0 "I" false := ⟨RX11, TX11, 17, rfl, by decide, by decide +kernel, by decide +kernel, rfl, rfl, rfl, fun h => by cases h⟩
set_option maxRecDepth 100000 in
theorem cl_X11_held_40 : CS mX11_held 40 mX11_in 3 := ⟨gX11_held_X11_in, ⟨⟨_, rfl⟩, by decide +kernel, by decide⟩⟩
set_option maxRecDepth 100000 in
theorem kc_X11_held_111 : Cond.constant mX11_held.1.cls 111 (-10000001) ∈ y_ws mX11_held := by decide +kernel
set_option maxRecDepth 100000 in
theorem fa_X11_held_36 : FA mX11_held 36 11 6 "F" false := ⟨RX11, TX11, 17, rfl, by decide, by decide +kernel, by decide +kernel, rfl, rfl, rfl, fun h => by cases h⟩
set_option maxRecDepth 100000 in
theorem cl_X11_held_73 : CV mX11_held 73 mX11_reading 1 := ⟨gX11_held_X11_reading, ⟨⟨_, rfl⟩, by decide +kernel, by decide⟩⟩
set_option maxRecDepth 100000 in
theorem kc_X11_held_203 : Cond.constantFloat mX11_held.1.cls 203 (1132462080) ∈ y_ws mX11_held := by decide +kernel
abbrev mX11_would : MD := (yX11_would, cX11_would, 3, (some .int), wsX11_would, ({ frames := 6, cells := 0, slots := 0, locals := 137 } : Room))
set_option maxRecDepth 100000 in
theorem fa_X11_would_29 : FA mX11_would 29 11 0 "I" false := ⟨RX11, TX11, 17, rfl, by decide, by decide +kernel, by decide +kernel, rfl, rfl, rfl, fun h => by cases h⟩
set_option maxRecDepth 100000 in
theorem cl_X11_would_127 : CV mX11_would 127 mX11_isEntry 1 := ⟨gX11_would_X11_isEntry, ⟨⟨_, rfl⟩, by decide +kernel, by decide⟩⟩
set_option maxRecDepth 100000 in
theorem cl_X11_would_40 : CS mX11_would 40 mX11_in 3 := ⟨gX11_would_X11_in, ⟨⟨_, rfl⟩, by decide +kernel, by decide⟩⟩
set_option maxRecDepth 100000 in
theorem kc_X11_would_111 : Cond.constant mX11_would.1.cls 111 (-10000001) ∈ y_ws mX11_would := by decide +kernel
set_option maxRecDepth 100000 in
theorem cl_X11_would_204 : CV mX11_would 204 mX11_carryOutTo 1 := ⟨gX11_would_X11_carryOutTo, ⟨⟨_, rfl⟩, by decide +kernel, by decide⟩⟩
set_option maxRecDepth 100000 in
theorem fa_X11_would_77 : FA mX11_would 77 11 11 "I" false := ⟨RX11, TX11, 17, rfl, by decide, by decide +kernel, by decide +kernel, rfl, rfl, rfl, fun h => by cases h⟩
set_option maxRecDepth 100000 in
theorem fa_X11_would_80 : FA mX11_would 80 11 12 "I" false := ⟨RX11, TX11, 17, rfl, by decide, by decide +kernel, by decide +kernel, rfl, rfl, rfl, fun h => by cases h⟩
set_option maxRecDepth 100000 in
theorem fa_X11_would_83 : FA mX11_would 83 11 13 "I" false := ⟨RX11, TX11, 17, rfl, by decide, by decide +kernel, by decide +kernel, rfl, rfl, rfl, fun h => by cases h⟩
abbrev mX11_why : MD := (yX11_why, cX11_why, 2, (some .int), wsX11_why, ({ frames := 6, cells := 0, slots := 0, locals := 137 } : Room))
set_option maxRecDepth 100000 in
theorem fa_X11_why_29 : FA mX11_why 29 11 0 "I" false := ⟨RX11, TX11, 17, rfl, by decide, by decide +kernel, by decide +kernel, rfl, rfl, rfl, fun h => by cases h⟩
set_option maxRecDepth 100000 in
theorem cl_X11_why_127 : CV mX11_why 127 mX11_isEntry 1 := ⟨gX11_why_X11_isEntry, ⟨⟨_, rfl⟩, by decide +kernel, by decide⟩⟩
set_option maxRecDepth 100000 in
theorem kc_X11_why_111 : Cond.constant mX11_why.1.cls 111 (-10000001) ∈ y_ws mX11_why := by decide +kernel
set_option maxRecDepth 100000 in
theorem cl_X11_why_204 : CV mX11_why 204 mX11_carryOutTo 1 := ⟨gX11_why_X11_carryOutTo, ⟨⟨_, rfl⟩, by decide +kernel, by decide⟩⟩
set_option maxRecDepth 100000 in
theorem fa_X11_why_83 : FA mX11_why 83 11 13 "I" false := ⟨RX11, TX11, 17, rfl, by decide, by decide +kernel, by decide +kernel, rfl, rfl, rfl, fun h => by cases h⟩
set_option maxRecDepth 100000 in
theorem fa_X11_why_80 : FA mX11_why 80 11 12 "I" false := ⟨RX11, TX11, 17, rfl, by decide, by decide +kernel, by decide +kernel, rfl, rfl, rfl, fun h => by cases h⟩
set_option maxRecDepth 100000 in
theorem fa_X11_why_63 : FA mX11_why 63 11 9 "F" false := ⟨RX11, TX11, 17, rfl, by decide, by decide +kernel, by decide +kernel, rfl, rfl, rfl, fun h => by cases h⟩
set_option maxRecDepth 100000 in
theorem cl_X11_why_59 : CS mX11_why 59 mX11_readingBy 3 := ⟨gX11_why_X11_readingBy, ⟨⟨_, rfl⟩, by decide +kernel, by decide⟩⟩
set_option maxRecDepth 100000 in
theorem cl_X11_why_89 : CV mX11_why 89 mX11_placeOf 1 := ⟨gX11_why_X11_placeOf, ⟨⟨_, rfl⟩, by decide +kernel, by decide⟩⟩
set_option maxRecDepth 100000 in
theorem fa_X11_why_66 : FA mX11_why 66 11 10 "I" false := ⟨RX11, TX11, 17, rfl, by decide, by decide +kernel, by decide +kernel, rfl, rfl, rfl, fun h => by cases h⟩
set_option maxRecDepth 100000 in
theorem cl_X11_why_54 : CV mX11_why 54 mX11_valueOf 2 := ⟨gX11_why_X11_valueOf, ⟨⟨_, rfl⟩, by decide +kernel, by decide⟩⟩
abbrev mX11_settleFor : MD := (yX11_settleFor, cX11_settleFor, 6, (some .int), wsX11_settleFor, ({ frames := 6, cells := 0, slots := 0, locals := 137 } : Room))
set_option maxRecDepth 100000 in
theorem fa_X11_settleFor_29 : FA mX11_settleFor 29 11 0 "I" false := ⟨RX11, TX11, 17, rfl, by decide, by decide +kernel, by decide +kernel, rfl, rfl, rfl, fun h => by cases h⟩
set_option maxRecDepth 100000 in
theorem cl_X11_settleFor_127 : CV mX11_settleFor 127 mX11_isEntry 1 := ⟨gX11_settleFor_X11_isEntry, ⟨⟨_, rfl⟩, by decide +kernel, by decide⟩⟩
set_option maxRecDepth 100000 in
theorem cl_X11_settleFor_40 : CS mX11_settleFor 40 mX11_in 3 := ⟨gX11_settleFor_X11_in, ⟨⟨_, rfl⟩, by decide +kernel, by decide⟩⟩
set_option maxRecDepth 100000 in
theorem kc_X11_settleFor_111 : Cond.constant mX11_settleFor.1.cls 111 (-10000001) ∈ y_ws mX11_settleFor := by decide +kernel
set_option maxRecDepth 100000 in
theorem cl_X11_settleFor_93 : CV mX11_settleFor 93 mX11_settleOf 1 := ⟨gX11_settleFor_X11_settleOf, ⟨⟨_, rfl⟩, by decide +kernel, by decide⟩⟩
set_option maxRecDepth 100000 in
theorem kc_X11_settleFor_196 : Cond.constant mX11_settleFor.1.cls 196 (-10000009) ∈ y_ws mX11_settleFor := by decide +kernel
set_option maxRecDepth 100000 in
theorem fa_X11_settleFor_7 : FA mX11_settleFor 7 11 1 "[I" true := ⟨RX11, TX11, 17, rfl, by decide, by decide +kernel, by decide +kernel, rfl, rfl, rfl, fun _ h => absurd h (by decide +kernel)⟩
set_option maxRecDepth 100000 in
theorem cl_X11_settleFor_204 : CV mX11_settleFor 204 mX11_carryOutTo 1 := ⟨gX11_settleFor_X11_carryOutTo, ⟨⟨_, rfl⟩, by decide +kernel, by decide⟩⟩
set_option maxRecDepth 100000 in
theorem fa_X11_settleFor_83 : FA mX11_settleFor 83 11 13 "I" false := ⟨RX11, TX11, 17, rfl, by decide, by decide +kernel, by decide +kernel, rfl, rfl, rfl, fun h => by cases h⟩
set_option maxRecDepth 100000 in
theorem cl_X11_settleFor_100 : CS mX11_settleFor 100 mX11_size 1 := ⟨gX11_settleFor_X11_size, ⟨⟨_, rfl⟩, by decide +kernel, by decide⟩⟩
abbrev mX11_bestRule : MD := (yX11_bestRule, cX11_bestRule, 6, (some .int), wsX11_bestRule, ({ frames := 6, cells := 0, slots := 0, locals := 137 } : Room))
set_option maxRecDepth 100000 in
theorem fa_X11_bestRule_29 : FA mX11_bestRule 29 11 0 "I" false := ⟨RX11, TX11, 17, rfl, by decide, by decide +kernel, by decide +kernel, rfl, rfl, rfl, fun h => by cases h⟩
set_option maxRecDepth 100000 in
theorem cl_X11_bestRule_208 : CV mX11_bestRule 208 mX11_carries 0 := ⟨gX11_bestRule_X11_carries, ⟨⟨_, rfl⟩, by decide +kernel, by decide⟩⟩
set_option maxRecDepth 100000 in
theorem cl_X11_bestRule_182 : CV mX11_bestRule 182 mX11_hold 0 := ⟨gX11_bestRule_X11_hold, ⟨⟨_, rfl⟩, by decide +kernel, by decide⟩⟩
set_option maxRecDepth 100000 in
theorem cl_X11_bestRule_136 : CV mX11_bestRule 136 mX11_orderBy 1 := ⟨gX11_bestRule_X11_orderBy, ⟨⟨_, rfl⟩, by decide +kernel, by decide⟩⟩
set_option maxRecDepth 100000 in
theorem cl_X11_bestRule_211 : CV mX11_bestRule 211 mX11_release 0 := ⟨gX11_bestRule_X11_release, ⟨⟨_, rfl⟩, by decide +kernel, by decide⟩⟩
abbrev mX11_groundsNeeded : MD := (yX11_groundsNeeded, cX11_groundsNeeded, 5, (some .int), wsX11_groundsNeeded, ({ frames := 5, cells := 0, slots := 0, locals := 115 } : Room))
set_option maxRecDepth 100000 in
theorem fa_X11_groundsNeeded_29 : FA mX11_groundsNeeded 29 11 0 "I" false := ⟨RX11, TX11, 17, rfl, by decide, by decide +kernel, by decide +kernel, rfl, rfl, rfl, fun h => by cases h⟩
set_option maxRecDepth 100000 in
theorem cl_X11_groundsNeeded_86 : CV mX11_groundsNeeded 86 mX11_begin 0 := ⟨gX11_groundsNeeded_X11_begin, ⟨⟨_, rfl⟩, by decide +kernel, by decide⟩⟩
set_option maxRecDepth 100000 in
theorem fa_X11_groundsNeeded_7 : FA mX11_groundsNeeded 7 11 1 "[I" true := ⟨RX11, TX11, 17, rfl, by decide, by decide +kernel, by decide +kernel, rfl, rfl, rfl, fun _ h => absurd h (by decide +kernel)⟩
set_option maxRecDepth 100000 in
theorem fa_X11_groundsNeeded_63 : FA mX11_groundsNeeded 63 11 9 "F" false := ⟨RX11, TX11, 17, rfl, by decide, by decide +kernel, by decide +kernel, rfl, rfl, rfl, fun h => by cases h⟩
set_option maxRecDepth 100000 in
theorem fa_X11_groundsNeeded_66 : FA mX11_groundsNeeded 66 11 10 "I" false := ⟨RX11, TX11, 17, rfl, by decide, by decide +kernel, by decide +kernel, rfl, rfl, rfl, fun h => by cases h⟩
set_option maxRecDepth 100000 in
theorem cl_X11_groundsNeeded_89 : CV mX11_groundsNeeded 89 mX11_placeOf 1 := ⟨gX11_groundsNeeded_X11_placeOf, ⟨⟨_, rfl⟩, by decide +kernel, by decide⟩⟩
set_option maxRecDepth 100000 in
theorem cl_X11_groundsNeeded_93 : CV mX11_groundsNeeded 93 mX11_settleOf 1 := ⟨gX11_groundsNeeded_X11_settleOf, ⟨⟨_, rfl⟩, by decide +kernel, by decide⟩⟩
set_option maxRecDepth 100000 in
theorem cl_X11_groundsNeeded_96 : CV mX11_groundsNeeded 96 mX11_carryOut 2 := ⟨gX11_groundsNeeded_X11_carryOut, ⟨⟨_, rfl⟩, by decide +kernel, by decide⟩⟩
set_option maxRecDepth 100000 in
theorem fa_X11_groundsNeeded_80 : FA mX11_groundsNeeded 80 11 12 "I" false := ⟨RX11, TX11, 17, rfl, by decide, by decide +kernel, by decide +kernel, rfl, rfl, rfl, fun h => by cases h⟩
set_option maxRecDepth 100000 in
theorem cl_X11_groundsNeeded_69 : CV mX11_groundsNeeded 69 mX11_slot 3 := ⟨gX11_groundsNeeded_X11_slot, ⟨⟨_, rfl⟩, by decide +kernel, by decide⟩⟩
