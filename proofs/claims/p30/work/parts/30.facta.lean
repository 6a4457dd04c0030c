/-! FIXED FACTS of the methods: words, links, rooms (by program) -/
set_option maxRecDepth 100000 in
theorem zz_a_first : True := trivial
abbrev mX10_isWithin : MD := (yX10_isWithin, cX10_isWithin, 3, (some .boolean), wsX10_isWithin, ({ frames := 0, cells := 0, slots := 0, locals := 0 } : Room))
abbrev mX10_readingWith : MD := (yX10_readingWith, cX10_readingWith, 4, (some .int), wsX10_readingWith, ({ frames := 1, cells := 0, slots := 0, locals := 21 } : Room))
set_option maxRecDepth 100000 in
theorem kc_X10_readingWith_277 : Cond.constantFloat mX10_readingWith.1.cls 277 (1148846080) ∈ y_ws mX10_readingWith := by decide +kernel
set_option maxRecDepth 100000 in
theorem kc_X10_readingWith_278 : Cond.constantFloat mX10_readingWith.1.cls 278 (1056964608) ∈ y_ws mX10_readingWith := by decide +kernel
set_option maxRecDepth 100000 in
theorem wm_X10_readingWith_279 : WM mX10_readingWith 279 Lib.Math.min.name Lib.Math.min.code 2 := ⟨by decide +kernel, by decide +kernel, by decide +kernel, by decide +kernel, by decide, by decide⟩
abbrev mX7_init : MD := (yX7_init, cX7_init, 3, none, wsX7_init, ({ frames := 1, cells := 1, slots := 200, locals := 21 } : Room))
set_option maxRecDepth 100000 in
theorem ob_X7_init_1 : Cond.methodLink mX7_init.1.cls 1 objectInit ∈ y_ws mX7_init ∧ Cond.instanceMethod objectInit ∈ y_ws mX7_init ∧ Cond.code objectInit ⟨#[0xb1]⟩ 1 none ∈ y_ws mX7_init := ⟨by decide +kernel, by decide +kernel, by decide +kernel⟩
set_option maxRecDepth 100000 in
theorem wm_X7_init_7 : WM mX7_init 7 Lib.Math.max.name Lib.Math.max.code 2 := ⟨by decide +kernel, by decide +kernel, by decide +kernel, by decide +kernel, by decide, by decide⟩
set_option maxRecDepth 100000 in
theorem fa_X7_init_13 : FA mX7_init 13 7 0 "I" true := ⟨RX7, TX7, 2, rfl, by decide, by decide +kernel, by decide +kernel, rfl, rfl, rfl, fun _ _ => rfl⟩
set_option maxRecDepth 100000 in
theorem ac_X7_init_int : Cond.arrayClass .int ∈ y_ws mX7_init := by decide +kernel
set_option maxRecDepth 100000 in
theorem fa_X7_init_19 : FA mX7_init 19 7 1 "[I" true := ⟨RX7, TX7, 2, rfl, by decide, by decide +kernel, by decide +kernel, rfl, rfl, rfl, fun _ _ => rfl⟩
abbrev mX7_put : MD := (yX7_put, cX7_put, 5, none, wsX7_put, ({ frames := 0, cells := 0, slots := 0, locals := 0 } : Room))
set_option maxRecDepth 100000 in
theorem fa_X7_put_13 : FA mX7_put 13 7 0 "I" true := ⟨RX7, TX7, 2, rfl, by decide, by decide +kernel, by decide +kernel, rfl, rfl, rfl, fun _ h => absurd h (by decide +kernel)⟩
set_option maxRecDepth 100000 in
theorem fa_X7_put_19 : FA mX7_put 19 7 1 "[I" true := ⟨RX7, TX7, 2, rfl, by decide, by decide +kernel, by decide +kernel, rfl, rfl, rfl, fun _ h => absurd h (by decide +kernel)⟩
abbrev mX3_init : MD := (yX3_init, cX3_init, 1, none, wsX3_init, ({ frames := 2, cells := 6, slots := 606, locals := 43 } : Room))
set_option maxRecDepth 100000 in
theorem ob_X3_init_3 : Cond.methodLink mX3_init.1.cls 3 objectInit ∈ y_ws mX3_init ∧ Cond.instanceMethod objectInit ∈ y_ws mX3_init ∧ Cond.code objectInit ⟨#[0xb1]⟩ 1 none ∈ y_ws mX3_init := ⟨by decide +kernel, by decide +kernel, by decide +kernel⟩
set_option maxRecDepth 100000 in
theorem fn_X3_init_9 : FN mX3_init 9 7 := ⟨RX7, TX7, 2, rfl, by decide +kernel, by decide +kernel, by decide +kernel, by decide +kernel, rfl⟩
set_option maxRecDepth 100000 in
theorem cl_X3_init_11 : CI mX3_init 11 mX7_init 2 := ⟨gX3_init_X7_init, by decide +kernel, by decide +kernel, by decide +kernel, by decide +kernel, rfl, ⟨⟨_, rfl⟩, by decide +kernel, by decide⟩⟩
set_option maxRecDepth 100000 in
theorem fa_X3_init_14 : FA mX3_init 14 3 0 "LScanRing$Table;" true := ⟨RX3, TX3, 4, rfl, by decide, by decide +kernel, by decide +kernel, rfl, rfl, rfl, fun _ _ => rfl⟩
set_option maxRecDepth 100000 in
theorem fa_X3_init_20 : FA mX3_init 20 3 1 "LScanRing$Table;" true := ⟨RX3, TX3, 4, rfl, by decide, by decide +kernel, by decide +kernel, rfl, rfl, rfl, fun _ _ => rfl⟩
set_option maxRecDepth 100000 in
theorem fa_X3_init_23 : FA mX3_init 23 3 2 "LScanRing$Table;" true := ⟨RX3, TX3, 4, rfl, by decide, by decide +kernel, by decide +kernel, rfl, rfl, rfl, fun _ _ => rfl⟩
set_option maxRecDepth 100000 in
theorem cl_X3_init_26 : CV mX3_init 26 mX7_put 3 := ⟨gX3_init_X7_put, ⟨⟨_, rfl⟩, by decide +kernel, by decide⟩⟩
abbrev mX2_init : MD := (yX2_init, cX2_init, 1, none, wsX2_init, ({ frames := 2, cells := 2, slots := 202, locals := 43 } : Room))
set_option maxRecDepth 100000 in
theorem ob_X2_init_3 : Cond.methodLink mX2_init.1.cls 3 objectInit ∈ y_ws mX2_init ∧ Cond.instanceMethod objectInit ∈ y_ws mX2_init ∧ Cond.code objectInit ⟨#[0xb1]⟩ 1 none ∈ y_ws mX2_init := ⟨by decide +kernel, by decide +kernel, by decide +kernel⟩
set_option maxRecDepth 100000 in
theorem fn_X2_init_9 : FN mX2_init 9 7 := ⟨RX7, TX7, 2, rfl, by decide +kernel, by decide +kernel, by decide +kernel, by decide +kernel, rfl⟩
set_option maxRecDepth 100000 in
theorem cl_X2_init_11 : CI mX2_init 11 mX7_init 2 := ⟨gX2_init_X7_init, by decide +kernel, by decide +kernel, by decide +kernel, by decide +kernel, rfl, ⟨⟨_, rfl⟩, by decide +kernel, by decide⟩⟩
set_option maxRecDepth 100000 in
theorem fa_X2_init_14 : FA mX2_init 14 2 0 "LScanRing$Table;" true := ⟨RX2, TX2, 3, rfl, by decide, by decide +kernel, by decide +kernel, rfl, rfl, rfl, fun _ _ => rfl⟩
abbrev mX4_init : MD := (yX4_init, cX4_init, 1, none, wsX4_init, ({ frames := 3, cells := 7, slots := 610, locals := 63 } : Room))
set_option maxRecDepth 100000 in
theorem ob_X4_init_1 : Cond.methodLink mX4_init.1.cls 1 objectInit ∈ y_ws mX4_init ∧ Cond.instanceMethod objectInit ∈ y_ws mX4_init ∧ Cond.code objectInit ⟨#[0xb1]⟩ 1 none ∈ y_ws mX4_init := ⟨by decide +kernel, by decide +kernel, by decide +kernel⟩
set_option maxRecDepth 100000 in
theorem fn_X4_init_7 : FN mX4_init 7 3 := ⟨RX3, TX3, 4, rfl, by decide +kernel, by decide +kernel, by decide +kernel, by decide +kernel, rfl⟩
set_option maxRecDepth 100000 in
theorem cl_X4_init_9 : CI mX4_init 9 mX3_init 0 := ⟨gX4_init_X3_init, by decide +kernel, by decide +kernel, by decide +kernel, by decide +kernel, rfl, ⟨⟨_, rfl⟩, by decide +kernel, by decide⟩⟩
set_option maxRecDepth 100000 in
theorem fa_X4_init_10 : FA mX4_init 10 4 0 "LScanRing$Setup;" true := ⟨RX4, TX4, 2, rfl, by decide, by decide +kernel, by decide +kernel, rfl, rfl, rfl, fun _ _ => rfl⟩
abbrev mX6_init : MD := (yX6_init, cX6_init, 2, none, wsX6_init, ({ frames := 4, cells := 30, slots := 2443, locals := 83 } : Room))
set_option maxRecDepth 100000 in
theorem ob_X6_init_3 : Cond.methodLink mX6_init.1.cls 3 objectInit ∈ y_ws mX6_init ∧ Cond.instanceMethod objectInit ∈ y_ws mX6_init ∧ Cond.code objectInit ⟨#[0xb1]⟩ 1 none ∈ y_ws mX6_init := ⟨by decide +kernel, by decide +kernel, by decide +kernel⟩
set_option maxRecDepth 100000 in
theorem fn_X6_init_9 : FN mX6_init 9 3 := ⟨RX3, TX3, 4, rfl, by decide +kernel, by decide +kernel, by decide +kernel, by decide +kernel, rfl⟩
set_option maxRecDepth 100000 in
theorem cl_X6_init_11 : CI mX6_init 11 mX3_init 0 := ⟨gX6_init_X3_init, by decide +kernel, by decide +kernel, by decide +kernel, by decide +kernel, rfl, ⟨⟨_, rfl⟩, by decide +kernel, by decide⟩⟩
set_option maxRecDepth 100000 in
theorem fa_X6_init_12 : FA mX6_init 12 6 0 "LScanRing$Setup;" true := ⟨RX6, TX6, 7, rfl, by decide, by decide +kernel, by decide +kernel, rfl, rfl, rfl, fun _ _ => rfl⟩
set_option maxRecDepth 100000 in
theorem fn_X6_init_18 : FN mX6_init 18 2 := ⟨RX2, TX2, 3, rfl, by decide +kernel, by decide +kernel, by decide +kernel, by decide +kernel, rfl⟩
set_option maxRecDepth 100000 in
theorem cl_X6_init_20 : CIN mX6_init 20 mX2_init 0 := ⟨gX6_init_X2_init_n20, by decide +kernel, by decide +kernel, by decide +kernel, by decide +kernel, rfl, ⟨⟨_, rfl⟩, by decide +kernel, by decide⟩⟩
set_option maxRecDepth 100000 in
theorem fa_X6_init_21 : FA mX6_init 21 6 1 "LScanRing$Log;" true := ⟨RX6, TX6, 7, rfl, by decide, by decide +kernel, by decide +kernel, rfl, rfl, rfl, fun _ _ => rfl⟩
set_option maxRecDepth 100000 in
theorem fn_X6_init_25 : FN mX6_init 25 7 := ⟨RX7, TX7, 2, rfl, by decide +kernel, by decide +kernel, by decide +kernel, by decide +kernel, rfl⟩
set_option maxRecDepth 100000 in
theorem cl_X6_init_27 : CI mX6_init 27 mX7_init 2 := ⟨gX6_init_X7_init, by decide +kernel, by decide +kernel, by decide +kernel, by decide +kernel, rfl, ⟨⟨_, rfl⟩, by decide +kernel, by decide⟩⟩
set_option maxRecDepth 100000 in
theorem fa_X6_init_30 : FA mX6_init 30 6 2 "LScanRing$Table;" true := ⟨RX6, TX6, 7, rfl, by decide, by decide +kernel, by decide +kernel, rfl, rfl, rfl, fun _ _ => rfl⟩
set_option maxRecDepth 100000 in
theorem fa_X6_init_34 : FA mX6_init 34 6 3 "LScanRing$Table;" true := ⟨RX6, TX6, 7, rfl, by decide, by decide +kernel, by decide +kernel, rfl, rfl, rfl, fun _ _ => rfl⟩
set_option maxRecDepth 100000 in
theorem fn_X6_init_37 : FN mX6_init 37 4 := ⟨RX4, TX4, 2, rfl, by decide +kernel, by decide +kernel, by decide +kernel, by decide +kernel, rfl⟩
set_option maxRecDepth 100000 in
theorem cl_X6_init_39 : CIN mX6_init 39 mX4_init 0 := ⟨gX6_init_X4_init_n39, by decide +kernel, by decide +kernel, by decide +kernel, by decide +kernel, rfl, ⟨⟨_, rfl⟩, by decide +kernel, by decide⟩⟩
set_option maxRecDepth 100000 in
theorem fa_X6_init_40 : FA mX6_init 40 6 4 "LScanRing$Snapshot;" true := ⟨RX6, TX6, 7, rfl, by decide, by decide +kernel, by decide +kernel, rfl, rfl, rfl, fun _ _ => rfl⟩
set_option maxRecDepth 100000 in
theorem fa_X6_init_44 : FA mX6_init 44 6 5 "LScanRing$Snapshot;" true := ⟨RX6, TX6, 7, rfl, by decide, by decide +kernel, by decide +kernel, rfl, rfl, rfl, fun _ _ => rfl⟩
set_option maxRecDepth 100000 in
theorem kc_X6_init_47 : Cond.constant mX6_init.1.cls 47 (-10000009) ∈ y_ws mX6_init := by decide +kernel
set_option maxRecDepth 100000 in
theorem cl_X6_init_48 : CV mX6_init 48 mX7_put 3 := ⟨gX6_init_X7_put, ⟨⟨_, rfl⟩, by decide +kernel, by decide⟩⟩
abbrev mX1_init : MD := (yX1_init, cX1_init, 2, none, wsX1_init, ({ frames := 5, cells := 156, slots := 12255, locals := 104 } : Room))
set_option maxRecDepth 100000 in
theorem ob_X1_init_3 : Cond.methodLink mX1_init.1.cls 3 objectInit ∈ y_ws mX1_init ∧ Cond.instanceMethod objectInit ∈ y_ws mX1_init ∧ Cond.code objectInit ⟨#[0xb1]⟩ 1 none ∈ y_ws mX1_init := ⟨by decide +kernel, by decide +kernel, by decide +kernel⟩
set_option maxRecDepth 100000 in
theorem ac_X1_init_9 : Cond.classLink mX1_init.1.cls 9 "ScanRing$State" ∈ y_ws mX1_init := by decide +kernel
set_option maxRecDepth 100000 in
theorem fa_X1_init_11 : FA mX1_init 11 1 0 "[LScanRing$State;" true := ⟨RX1, TX1, 3, rfl, by decide, by decide +kernel, by decide +kernel, rfl, rfl, rfl, fun _ _ => rfl⟩
set_option maxRecDepth 100000 in
theorem fn_X1_init_9 : FN mX1_init 9 6 := ⟨RX6, TX6, 7, rfl, by decide +kernel, by decide +kernel, by decide +kernel, by decide +kernel, rfl⟩
set_option maxRecDepth 100000 in
theorem cl_X1_init_17 : CI mX1_init 17 mX6_init 0 := ⟨gX1_init_X6_init, by decide +kernel, by decide +kernel, by decide +kernel, by decide +kernel, rfl, ⟨⟨_, rfl⟩, by decide +kernel, by decide⟩⟩
abbrev mX0_init : MD := (yX0_init, cX0_init, 1, none, wsX0_init, ({ frames := 1, cells := 0, slots := 0, locals := 20 } : Room))
set_option maxRecDepth 100000 in
theorem ob_X0_init_3 : Cond.methodLink mX0_init.1.cls 3 objectInit ∈ y_ws mX0_init ∧ Cond.instanceMethod objectInit ∈ y_ws mX0_init ∧ Cond.code objectInit ⟨#[0xb1]⟩ 1 none ∈ y_ws mX0_init := ⟨by decide +kernel, by decide +kernel, by decide +kernel⟩
abbrev mX5_init : MD := (yX5_init, cX5_init, 1, none, wsX5_init, ({ frames := 2, cells := 6, slots := 606, locals := 43 } : Room))
set_option maxRecDepth 100000 in
theorem ob_X5_init_3 : Cond.methodLink mX5_init.1.cls 3 objectInit ∈ y_ws mX5_init ∧ Cond.instanceMethod objectInit ∈ y_ws mX5_init ∧ Cond.code objectInit ⟨#[0xb1]⟩ 1 none ∈ y_ws mX5_init := ⟨by decide +kernel, by decide +kernel, by decide +kernel⟩
set_option maxRecDepth 100000 in
theorem fn_X5_init_9 : FN mX5_init 9 7 := ⟨RX7, TX7, 2, rfl, by decide +kernel, by decide +kernel, by decide +kernel, by decide +kernel, rfl⟩
set_option maxRecDepth 100000 in
theorem cl_X5_init_11 : CI mX5_init 11 mX7_init 2 := ⟨gX5_init_X7_init, by decide +kernel, by decide +kernel, by decide +kernel, by decide +kernel, rfl, ⟨⟨_, rfl⟩, by decide +kernel, by decide⟩⟩
set_option maxRecDepth 100000 in
theorem fa_X5_init_14 : FA mX5_init 14 5 0 "LScanRing$Table;" true := ⟨RX5, TX5, 3, rfl, by decide, by decide +kernel, by decide +kernel, rfl, rfl, rfl, fun _ _ => rfl⟩
set_option maxRecDepth 100000 in
theorem fa_X5_init_20 : FA mX5_init 20 5 1 "LScanRing$Table;" true := ⟨RX5, TX5, 3, rfl, by decide, by decide +kernel, by decide +kernel, rfl, rfl, rfl, fun _ _ => rfl⟩
set_option maxRecDepth 100000 in
theorem fa_X5_init_23 : FA mX5_init 23 5 2 "LScanRing$Table;" true := ⟨RX5, TX5, 3, rfl, by decide, by decide +kernel, by decide +kernel, rfl, rfl, rfl, fun _ _ => rfl⟩
abbrev mX8_init : MD := (yX8_init, cX8_init, 1, none, wsX8_init, ({ frames := 1, cells := 1, slots := 140, locals := 20 } : Room))
set_option maxRecDepth 100000 in
theorem ob_X8_init_3 : Cond.methodLink mX8_init.1.cls 3 objectInit ∈ y_ws mX8_init ∧ Cond.instanceMethod objectInit ∈ y_ws mX8_init ∧ Cond.code objectInit ⟨#[0xb1]⟩ 1 none ∈ y_ws mX8_init := ⟨by decide +kernel, by decide +kernel, by decide +kernel⟩
set_option maxRecDepth 100000 in
theorem ac_X8_init_char : Cond.arrayClass .char ∈ y_ws mX8_init := by decide +kernel
set_option maxRecDepth 100000 in
theorem fa_X8_init_9 : FA mX8_init 9 8 0 "[C" true := ⟨RX8, TX8, 2, rfl, by decide, by decide +kernel, by decide +kernel, rfl, rfl, rfl, fun _ _ => rfl⟩
abbrev mX9_init : MD := (yX9_init, cX9_init, 1, none, wsX9_init, ({ frames := 3, cells := 9, slots := 752, locals := 63 } : Room))
set_option maxRecDepth 100000 in
theorem ob_X9_init_3 : Cond.methodLink mX9_init.1.cls 3 objectInit ∈ y_ws mX9_init ∧ Cond.instanceMethod objectInit ∈ y_ws mX9_init ∧ Cond.code objectInit ⟨#[0xb1]⟩ 1 none ∈ y_ws mX9_init := ⟨by decide +kernel, by decide +kernel, by decide +kernel⟩
set_option maxRecDepth 100000 in
theorem fn_X9_init_9 : FN mX9_init 9 8 := ⟨RX8, TX8, 2, rfl, by decide +kernel, by decide +kernel, by decide +kernel, by decide +kernel, rfl⟩
set_option maxRecDepth 100000 in
theorem cl_X9_init_11 : CIN mX9_init 11 mX8_init 0 := ⟨gX9_init_X8_init_n11, by decide +kernel, by decide +kernel, by decide +kernel, by decide +kernel, rfl, ⟨⟨_, rfl⟩, by decide +kernel, by decide⟩⟩
set_option maxRecDepth 100000 in
theorem fa_X9_init_12 : FA mX9_init 12 9 0 "LScanRing$Text;" true := ⟨RX9, TX9, 4, rfl, by decide, by decide +kernel, by decide +kernel, rfl, rfl, rfl, fun _ _ => rfl⟩
set_option maxRecDepth 100000 in
theorem fn_X9_init_18 : FN mX9_init 18 3 := ⟨RX3, TX3, 4, rfl, by decide +kernel, by decide +kernel, by decide +kernel, by decide +kernel, rfl⟩
set_option maxRecDepth 100000 in
theorem cl_X9_init_20 : CI mX9_init 20 mX3_init 0 := ⟨gX9_init_X3_init, by decide +kernel, by decide +kernel, by decide +kernel, by decide +kernel, rfl, ⟨⟨_, rfl⟩, by decide +kernel, by decide⟩⟩
set_option maxRecDepth 100000 in
theorem fa_X9_init_21 : FA mX9_init 21 9 1 "LScanRing$Setup;" true := ⟨RX9, TX9, 4, rfl, by decide, by decide +kernel, by decide +kernel, rfl, rfl, rfl, fun _ _ => rfl⟩
abbrev mX1_placeAt : MD := (yX1_placeAt, cX1_placeAt, 2, (some (.object "ScanRing$State")), wsX1_placeAt, ({ frames := 0, cells := 0, slots := 0, locals := 0 } : Room))
set_option maxRecDepth 100000 in
theorem fa_X1_placeAt_11 : FA mX1_placeAt 11 1 0 "[LScanRing$State;" true := ⟨RX1, TX1, 3, rfl, by decide, by decide +kernel, by decide +kernel, rfl, rfl, rfl, fun _ h => absurd h (by decide +kernel)⟩
abbrev mX7_copyFrom : MD := (yX7_copyFrom, cX7_copyFrom, 2, none, wsX7_copyFrom, ({ frames := 1, cells := 0, slots := 0, locals := 26 } : Room))
set_option maxRecDepth 100000 in
theorem fa_X7_copyFrom_19 : FA mX7_copyFrom 19 7 1 "[I" true := ⟨RX7, TX7, 2, rfl, by decide, by decide +kernel, by decide +kernel, rfl, rfl, rfl, fun _ h => absurd h (by decide +kernel)⟩
set_option maxRecDepth 100000 in
theorem wm_X7_copyFrom_30 : WM mX7_copyFrom 30 Lib.Math.min.name Lib.Math.min.code 2 := ⟨by decide +kernel, by decide +kernel, by decide +kernel, by decide +kernel, by decide, by decide⟩
set_option maxRecDepth 100000 in
theorem cw_X7_copyFrom_33 : Cond.methodLink mX7_copyFrom.1.cls 33 arraycopyName ∈ y_ws mX7_copyFrom ∧ Cond.native arraycopyName ∈ y_ws mX7_copyFrom ∧ Cond.static arraycopyName ∈ y_ws mX7_copyFrom ∧ Cond.initialized "java/lang/System" ∈ y_ws mX7_copyFrom := ⟨by decide +kernel, by decide +kernel, by decide +kernel, by decide +kernel⟩
abbrev mX3_copyFrom : MD := (yX3_copyFrom, cX3_copyFrom, 2, none, wsX3_copyFrom, ({ frames := 2, cells := 0, slots := 0, locals := 47 } : Room))
set_option maxRecDepth 100000 in
theorem fa_X3_copyFrom_14 : FA mX3_copyFrom 14 3 0 "LScanRing$Table;" true := ⟨RX3, TX3, 4, rfl, by decide, by decide +kernel, by decide +kernel, rfl, rfl, rfl, fun _ h => absurd h (by decide +kernel)⟩
set_option maxRecDepth 100000 in
theorem cl_X3_copyFrom_30 : CV mX3_copyFrom 30 mX7_copyFrom 1 := ⟨gX3_copyFrom_X7_copyFrom, ⟨⟨_, rfl⟩, by decide +kernel, by decide⟩⟩
set_option maxRecDepth 100000 in
theorem fa_X3_copyFrom_20 : FA mX3_copyFrom 20 3 1 "LScanRing$Table;" true := ⟨RX3, TX3, 4, rfl, by decide, by decide +kernel, by decide +kernel, rfl, rfl, rfl, fun _ h => absurd h (by decide +kernel)⟩
set_option maxRecDepth 100000 in
theorem fa_X3_copyFrom_23 : FA mX3_copyFrom 23 3 2 "LScanRing$Table;" true := ⟨RX3, TX3, 4, rfl, by decide, by decide +kernel, by decide +kernel, rfl, rfl, rfl, fun _ h => absurd h (by decide +kernel)⟩
set_option maxRecDepth 100000 in
theorem fa_X3_copyFrom_34 : FA mX3_copyFrom 34 3 3 "I" false := ⟨RX3, TX3, 4, rfl, by decide, by decide +kernel, by decide +kernel, rfl, rfl, rfl, fun h => by cases h⟩
abbrev mX2_copyFrom : MD := (yX2_copyFrom, cX2_copyFrom, 2, none, wsX2_copyFrom, ({ frames := 2, cells := 0, slots := 0, locals := 47 } : Room))
set_option maxRecDepth 100000 in
theorem fa_X2_copyFrom_14 : FA mX2_copyFrom 14 2 0 "LScanRing$Table;" true := ⟨RX2, TX2, 3, rfl, by decide, by decide +kernel, by decide +kernel, rfl, rfl, rfl, fun _ h => absurd h (by decide +kernel)⟩
set_option maxRecDepth 100000 in
theorem cl_X2_copyFrom_20 : CV mX2_copyFrom 20 mX7_copyFrom 1 := ⟨gX2_copyFrom_X7_copyFrom, ⟨⟨_, rfl⟩, by decide +kernel, by decide⟩⟩
set_option maxRecDepth 100000 in
theorem fa_X2_copyFrom_24 : FA mX2_copyFrom 24 2 1 "I" false := ⟨RX2, TX2, 3, rfl, by decide, by decide +kernel, by decide +kernel, rfl, rfl, rfl, fun h => by cases h⟩
set_option maxRecDepth 100000 in
theorem fa_X2_copyFrom_28 : FA mX2_copyFrom 28 2 2 "I" false := ⟨RX2, TX2, 3, rfl, by decide, by decide +kernel, by decide +kernel, rfl, rfl, rfl, fun h => by cases h⟩
abbrev mX4_copyFrom : MD := (yX4_copyFrom, cX4_copyFrom, 2, none, wsX4_copyFrom, ({ frames := 3, cells := 0, slots := 0, locals := 68 } : Room))
set_option maxRecDepth 100000 in
theorem fa_X4_copyFrom_10 : FA mX4_copyFrom 10 4 0 "LScanRing$Setup;" true := ⟨RX4, TX4, 2, rfl, by decide, by decide +kernel, by decide +kernel, rfl, rfl, rfl, fun _ h => absurd h (by decide +kernel)⟩
set_option maxRecDepth 100000 in
theorem cl_X4_copyFrom_16 : CV mX4_copyFrom 16 mX3_copyFrom 1 := ⟨gX4_copyFrom_X3_copyFrom, ⟨⟨_, rfl⟩, by decide +kernel, by decide⟩⟩
set_option maxRecDepth 100000 in
theorem fa_X4_copyFrom_20 : FA mX4_copyFrom 20 4 1 "Z" false := ⟨RX4, TX4, 2, rfl, by decide, by decide +kernel, by decide +kernel, rfl, rfl, rfl, fun h => by cases h⟩
abbrev mX6_copyFrom : MD := (yX6_copyFrom, cX6_copyFrom, 2, none, wsX6_copyFrom, ({ frames := 4, cells := 0, slots := 0, locals := 89 } : Room))
set_option maxRecDepth 100000 in
theorem fa_X6_copyFrom_12 : FA mX6_copyFrom 12 6 0 "LScanRing$Setup;" true := ⟨RX6, TX6, 7, rfl, by decide, by decide +kernel, by decide +kernel, rfl, rfl, rfl, fun _ h => absurd h (by decide +kernel)⟩
set_option maxRecDepth 100000 in
theorem cl_X6_copyFrom_52 : CV mX6_copyFrom 52 mX3_copyFrom 1 := ⟨gX6_copyFrom_X3_copyFrom, ⟨⟨_, rfl⟩, by decide +kernel, by decide⟩⟩
set_option maxRecDepth 100000 in
theorem fa_X6_copyFrom_21 : FA mX6_copyFrom 21 6 1 "LScanRing$Log;" true := ⟨RX6, TX6, 7, rfl, by decide, by decide +kernel, by decide +kernel, rfl, rfl, rfl, fun _ h => absurd h (by decide +kernel)⟩
set_option maxRecDepth 100000 in
theorem cl_X6_copyFrom_56 : CV mX6_copyFrom 56 mX2_copyFrom 1 := ⟨gX6_copyFrom_X2_copyFrom, ⟨⟨_, rfl⟩, by decide +kernel, by decide⟩⟩
set_option maxRecDepth 100000 in
theorem fa_X6_copyFrom_30 : FA mX6_copyFrom 30 6 2 "LScanRing$Table;" true := ⟨RX6, TX6, 7, rfl, by decide, by decide +kernel, by decide +kernel, rfl, rfl, rfl, fun _ h => absurd h (by decide +kernel)⟩
set_option maxRecDepth 100000 in
theorem cl_X6_copyFrom_59 : CV mX6_copyFrom 59 mX7_copyFrom 1 := ⟨gX6_copyFrom_X7_copyFrom, ⟨⟨_, rfl⟩, by decide +kernel, by decide⟩⟩
set_option maxRecDepth 100000 in
theorem fa_X6_copyFrom_34 : FA mX6_copyFrom 34 6 3 "LScanRing$Table;" true := ⟨RX6, TX6, 7, rfl, by decide, by decide +kernel, by decide +kernel, rfl, rfl, rfl, fun _ h => absurd h (by decide +kernel)⟩
set_option maxRecDepth 100000 in
theorem fa_X6_copyFrom_40 : FA mX6_copyFrom 40 6 4 "LScanRing$Snapshot;" true := ⟨RX6, TX6, 7, rfl, by decide, by decide +kernel, by decide +kernel, rfl, rfl, rfl, fun _ h => absurd h (by decide +kernel)⟩
set_option maxRecDepth 100000 in
theorem cl_X6_copyFrom_62 : CV mX6_copyFrom 62 mX4_copyFrom 1 := ⟨gX6_copyFrom_X4_copyFrom, ⟨⟨_, rfl⟩, by decide +kernel, by decide⟩⟩
set_option maxRecDepth 100000 in
theorem fa_X6_copyFrom_44 : FA mX6_copyFrom 44 6 5 "LScanRing$Snapshot;" true := ⟨RX6, TX6, 7, rfl, by decide, by decide +kernel, by decide +kernel, rfl, rfl, rfl, fun _ h => absurd h (by decide +kernel)⟩
set_option maxRecDepth 100000 in
theorem fa_X6_copyFrom_65 : FA mX6_copyFrom 65 6 6 "F" false := ⟨RX6, TX6, 7, rfl, by decide, by decide +kernel, by decide +kernel, rfl, rfl, rfl, fun h => by cases h⟩
abbrev mX1_keep : MD := (yX1_keep, cX1_keep, 3, none, wsX1_keep, ({ frames := 5, cells := 0, slots := 0, locals := 110 } : Room))
set_option maxRecDepth 100000 in
theorem fa_X1_keep_18 : FA mX1_keep 18 1 1 "I" false := ⟨RX1, TX1, 3, rfl, by decide, by decide +kernel, by decide +kernel, rfl, rfl, rfl, fun h => by cases h⟩
set_option maxRecDepth 100000 in
theorem cl_X1_keep_22 : CV mX1_keep 22 mX1_placeAt 1 := ⟨gX1_keep_X1_placeAt, ⟨⟨_, rfl⟩, by decide +kernel, by decide⟩⟩
set_option maxRecDepth 100000 in
theorem cl_X1_keep_26 : CV mX1_keep 26 mX6_copyFrom 1 := ⟨gX1_keep_X6_copyFrom, ⟨⟨_, rfl⟩, by decide +kernel, by decide⟩⟩
set_option maxRecDepth 100000 in
theorem fa_X1_keep_30 : FA mX1_keep 30 1 2 "I" false := ⟨RX1, TX1, 3, rfl, by decide, by decide +kernel, by decide +kernel, rfl, rfl, rfl, fun h => by cases h⟩
set_option maxRecDepth 100000 in
theorem wm_X1_keep_33 : WM mX1_keep 33 Lib.Math.min.name Lib.Math.min.code 2 := ⟨by decide +kernel, by decide +kernel, by decide +kernel, by decide +kernel, by decide, by decide⟩
abbrev mX7_at : MD := (yX7_at, cX7_at, 4, (some .int), wsX7_at, ({ frames := 0, cells := 0, slots := 0, locals := 0 } : Room))
set_option maxRecDepth 100000 in
theorem fa_X7_at_13 : FA mX7_at 13 7 0 "I" true := ⟨RX7, TX7, 2, rfl, by decide, by decide +kernel, by decide +kernel, rfl, rfl, rfl, fun _ h => absurd h (by decide +kernel)⟩
set_option maxRecDepth 100000 in
theorem fa_X7_at_19 : FA mX7_at 19 7 1 "[I" true := ⟨RX7, TX7, 2, rfl, by decide, by decide +kernel, by decide +kernel, rfl, rfl, rfl, fun _ h => absurd h (by decide +kernel)⟩
abbrev mX3_putSource : MD := (yX3_putSource, cX3_putSource, 6, none, wsX3_putSource, ({ frames := 1, cells := 0, slots := 0, locals := 24 } : Room))
set_option maxRecDepth 100000 in
theorem fa_X3_putSource_14 : FA mX3_putSource 14 3 0 "LScanRing$Table;" true := ⟨RX3, TX3, 4, rfl, by decide, by decide +kernel, by decide +kernel, rfl, rfl, rfl, fun _ h => absurd h (by decide +kernel)⟩
set_option maxRecDepth 100000 in
theorem cl_X3_putSource_26 : CV mX3_putSource 26 mX7_put 3 := ⟨gX3_putSource_X7_put, ⟨⟨_, rfl⟩, by decide +kernel, by decide⟩⟩
abbrev mX3_setting : MD := (yX3_setting, cX3_setting, 2, (some .int), wsX3_setting, ({ frames := 1, cells := 0, slots := 0, locals := 23 } : Room))
set_option maxRecDepth 100000 in
theorem fa_X3_setting_23 : FA mX3_setting 23 3 2 "LScanRing$Table;" true := ⟨RX3, TX3, 4, rfl, by decide, by decide +kernel, by decide +kernel, rfl, rfl, rfl, fun _ h => absurd h (by decide +kernel)⟩
set_option maxRecDepth 100000 in
theorem cl_X3_setting_38 : CV mX3_setting 38 mX7_at 2 := ⟨gX3_setting_X7_at, ⟨⟨_, rfl⟩, by decide +kernel, by decide⟩⟩
abbrev mX7_copyRow : MD := (yX7_copyRow, cX7_copyRow, 4, none, wsX7_copyRow, ({ frames := 1, cells := 0, slots := 0, locals := 24 } : Room))
set_option maxRecDepth 100000 in
theorem fa_X7_copyRow_13 : FA mX7_copyRow 13 7 0 "I" true := ⟨RX7, TX7, 2, rfl, by decide, by decide +kernel, by decide +kernel, rfl, rfl, rfl, fun _ h => absurd h (by decide +kernel)⟩
set_option maxRecDepth 100000 in
theorem cl_X7_copyRow_23 : CV mX7_copyRow 23 mX7_at 2 := ⟨gX7_copyRow_X7_at, ⟨⟨_, rfl⟩, by decide +kernel, by decide⟩⟩
set_option maxRecDepth 100000 in
theorem cl_X7_copyRow_26 : CV mX7_copyRow 26 mX7_put 3 := ⟨gX7_copyRow_X7_put, ⟨⟨_, rfl⟩, by decide +kernel, by decide⟩⟩
abbrev mX3_insert : MD := (yX3_insert, cX3_insert, 5, none, wsX3_insert, ({ frames := 2, cells := 0, slots := 0, locals := 47 } : Room))
set_option maxRecDepth 100000 in
theorem fa_X3_insert_34 : FA mX3_insert 34 3 3 "I" false := ⟨RX3, TX3, 4, rfl, by decide, by decide +kernel, by decide +kernel, rfl, rfl, rfl, fun h => by cases h⟩
set_option maxRecDepth 100000 in
theorem fa_X3_insert_20 : FA mX3_insert 20 3 1 "LScanRing$Table;" true := ⟨RX3, TX3, 4, rfl, by decide, by decide +kernel, by decide +kernel, rfl, rfl, rfl, fun _ h => absurd h (by decide +kernel)⟩
set_option maxRecDepth 100000 in
theorem cl_X3_insert_42 : CV mX3_insert 42 mX7_copyRow 2 := ⟨gX3_insert_X7_copyRow, ⟨⟨_, rfl⟩, by decide +kernel, by decide⟩⟩
set_option maxRecDepth 100000 in
theorem cl_X3_insert_26 : CV mX3_insert 26 mX7_put 3 := ⟨gX3_insert_X7_put, ⟨⟨_, rfl⟩, by decide +kernel, by decide⟩⟩
abbrev mX3_removeAt : MD := (yX3_removeAt, cX3_removeAt, 3, none, wsX3_removeAt, ({ frames := 2, cells := 0, slots := 0, locals := 47 } : Room))
set_option maxRecDepth 100000 in
theorem fa_X3_removeAt_34 : FA mX3_removeAt 34 3 3 "I" false := ⟨RX3, TX3, 4, rfl, by decide, by decide +kernel, by decide +kernel, rfl, rfl, rfl, fun h => by cases h⟩
set_option maxRecDepth 100000 in
theorem fa_X3_removeAt_20 : FA mX3_removeAt 20 3 1 "LScanRing$Table;" true := ⟨RX3, TX3, 4, rfl, by decide, by decide +kernel, by decide +kernel, rfl, rfl, rfl, fun _ h => absurd h (by decide +kernel)⟩
set_option maxRecDepth 100000 in
theorem cl_X3_removeAt_42 : CV mX3_removeAt 42 mX7_copyRow 2 := ⟨gX3_removeAt_X7_copyRow, ⟨⟨_, rfl⟩, by decide +kernel, by decide⟩⟩
abbrev mX6_time : MD := (yX6_time, cX6_time, 1, (some .int), wsX6_time, ({ frames := 1, cells := 0, slots := 0, locals := 23 } : Room))
set_option maxRecDepth 100000 in
theorem fa_X6_time_34 : FA mX6_time 34 6 3 "LScanRing$Table;" true := ⟨RX6, TX6, 7, rfl, by decide, by decide +kernel, by decide +kernel, rfl, rfl, rfl, fun _ h => absurd h (by decide +kernel)⟩
set_option maxRecDepth 100000 in
theorem cl_X6_time_69 : CV mX6_time 69 mX7_at 2 := ⟨gX6_time_X7_at, ⟨⟨_, rfl⟩, by decide +kernel, by decide⟩⟩
abbrev mX3_resistanceAt : MD := (yX3_resistanceAt, cX3_resistanceAt, 2, (some .int), wsX3_resistanceAt, ({ frames := 1, cells := 0, slots := 0, locals := 23 } : Room))
set_option maxRecDepth 100000 in
theorem fa_X3_resistanceAt_14 : FA mX3_resistanceAt 14 3 0 "LScanRing$Table;" true := ⟨RX3, TX3, 4, rfl, by decide, by decide +kernel, by decide +kernel, rfl, rfl, rfl, fun _ h => absurd h (by decide +kernel)⟩
set_option maxRecDepth 100000 in
theorem cl_X3_resistanceAt_38 : CV mX3_resistanceAt 38 mX7_at 2 := ⟨gX3_resistanceAt_X7_at, ⟨⟨_, rfl⟩, by decide +kernel, by decide⟩⟩
abbrev mJ9_floorDiv_7cf53 : MD := (yJ9_floorDiv_7cf53, cJ9_floorDiv_7cf53, 3, (some .int), wsJ9_floorDiv_7cf53, ({ frames := 0, cells := 0, slots := 0, locals := 0 } : Room))
abbrev mX3_isFirstHalf : MD := (yX3_isFirstHalf, cX3_isFirstHalf, 2, (some .boolean), wsX3_isFirstHalf, ({ frames := 0, cells := 0, slots := 0, locals := 0 } : Room))
abbrev mX3_valueAt : MD := (yX3_valueAt, cX3_valueAt, 5, (some .int), wsX3_valueAt, ({ frames := 2, cells := 0, slots := 0, locals := 44 } : Room))
set_option maxRecDepth 100000 in
theorem cl_X3_valueAt_49 : CV mX3_valueAt 49 mX3_setting 1 := ⟨gX3_valueAt_X3_setting, ⟨⟨_, rfl⟩, by decide +kernel, by decide⟩⟩
set_option maxRecDepth 100000 in
theorem fa_X3_valueAt_14 : FA mX3_valueAt 14 3 0 "LScanRing$Table;" true := ⟨RX3, TX3, 4, rfl, by decide, by decide +kernel, by decide +kernel, rfl, rfl, rfl, fun _ h => absurd h (by decide +kernel)⟩
set_option maxRecDepth 100000 in
theorem cl_X3_valueAt_38 : CV mX3_valueAt 38 mX7_at 2 := ⟨gX3_valueAt_X7_at, ⟨⟨_, rfl⟩, by decide +kernel, by decide⟩⟩
set_option maxRecDepth 100000 in
theorem cl_X3_valueAt_52 : CS mX3_valueAt 52 mJ9_floorDiv_7cf53 2 := ⟨gX3_valueAt_J9_floorDiv_7cf53, ⟨⟨_, rfl⟩, by decide +kernel, by decide⟩⟩
set_option maxRecDepth 100000 in
theorem wm_X3_valueAt_57 : WM mX3_valueAt 57 Lib.Math.min.name Lib.Math.min.code 2 := ⟨by decide +kernel, by decide +kernel, by decide +kernel, by decide +kernel, by decide, by decide⟩
set_option maxRecDepth 100000 in
theorem wm_X3_valueAt_60 : WM mX3_valueAt 60 Lib.Math.max.name Lib.Math.max.code 2 := ⟨by decide +kernel, by decide +kernel, by decide +kernel, by decide +kernel, by decide, by decide⟩
set_option maxRecDepth 100000 in
theorem cl_X3_valueAt_63 : CS mX3_valueAt 63 mX3_isFirstHalf 2 := ⟨gX3_valueAt_X3_isFirstHalf, ⟨⟨_, rfl⟩, by decide +kernel, by decide⟩⟩
abbrev mX5_keyOf : MD := (yX5_keyOf, cX5_keyOf, 5, (some .int), wsX5_keyOf, ({ frames := 3, cells := 0, slots := 0, locals := 68 } : Room))
set_option maxRecDepth 100000 in
theorem fa_X5_keyOf_39 : FA mX5_keyOf 39 3 1 "LScanRing$Table;" true := ⟨RX3, TX3, 4, rfl, by decide, by decide +kernel, by decide +kernel, rfl, rfl, rfl, fun _ h => absurd h (by decide +kernel)⟩
set_option maxRecDepth 100000 in
theorem cl_X5_keyOf_46 : CV mX5_keyOf 46 mX7_at 2 := ⟨gX5_keyOf_X7_at, ⟨⟨_, rfl⟩, by decide +kernel, by decide⟩⟩
set_option maxRecDepth 100000 in
theorem cl_X5_keyOf_57 : CV mX5_keyOf 57 mX3_resistanceAt 1 := ⟨gX5_keyOf_X3_resistanceAt, ⟨⟨_, rfl⟩, by decide +kernel, by decide⟩⟩
set_option maxRecDepth 100000 in
theorem cl_X5_keyOf_61 : CV mX5_keyOf 61 mX3_valueAt 2 := ⟨gX5_keyOf_X3_valueAt, ⟨⟨_, rfl⟩, by decide +kernel, by decide⟩⟩
abbrev mX5_sortIn : MD := (yX5_sortIn, cX5_sortIn, 4, none, wsX5_sortIn, ({ frames := 2, cells := 0, slots := 0, locals := 47 } : Room))
set_option maxRecDepth 100000 in
theorem fa_X5_sortIn_14 : FA mX5_sortIn 14 5 0 "LScanRing$Table;" true := ⟨RX5, TX5, 3, rfl, by decide, by decide +kernel, by decide +kernel, rfl, rfl, rfl, fun _ h => absurd h (by decide +kernel)⟩
set_option maxRecDepth 100000 in
theorem cl_X5_sortIn_46 : CV mX5_sortIn 46 mX7_at 2 := ⟨gX5_sortIn_X7_at, ⟨⟨_, rfl⟩, by decide +kernel, by decide⟩⟩
set_option maxRecDepth 100000 in
theorem cl_X5_sortIn_54 : CV mX5_sortIn 54 mX7_copyRow 2 := ⟨gX5_sortIn_X7_copyRow, ⟨⟨_, rfl⟩, by decide +kernel, by decide⟩⟩
set_option maxRecDepth 100000 in
theorem fa_X5_sortIn_20 : FA mX5_sortIn 20 5 1 "LScanRing$Table;" true := ⟨RX5, TX5, 3, rfl, by decide, by decide +kernel, by decide +kernel, rfl, rfl, rfl, fun _ h => absurd h (by decide +kernel)⟩
set_option maxRecDepth 100000 in
theorem cl_X5_sortIn_50 : CV mX5_sortIn 50 mX7_put 3 := ⟨gX5_sortIn_X7_put, ⟨⟨_, rfl⟩, by decide +kernel, by decide⟩⟩
abbrev mX5_arrange : MD := (yX5_arrange, cX5_arrange, 7, (some .int), wsX5_arrange, ({ frames := 4, cells := 0, slots := 0, locals := 92 } : Room))
set_option maxRecDepth 100000 in
theorem fa_X5_arrange_26 : FA mX5_arrange 26 3 3 "I" false := ⟨RX3, TX3, 4, rfl, by decide, by decide +kernel, by decide +kernel, rfl, rfl, rfl, fun h => by cases h⟩
set_option maxRecDepth 100000 in
theorem cl_X5_arrange_32 : CS mX5_arrange 32 mX5_keyOf 4 := ⟨gX5_arrange_X5_keyOf, ⟨⟨_, rfl⟩, by decide +kernel, by decide⟩⟩
set_option maxRecDepth 100000 in
theorem cl_X5_arrange_36 : CV mX5_arrange 36 mX5_sortIn 2 := ⟨gX5_arrange_X5_sortIn, ⟨⟨_, rfl⟩, by decide +kernel, by decide⟩⟩
set_option maxRecDepth 100000 in
theorem fa_X5_arrange_23 : FA mX5_arrange 23 5 2 "LScanRing$Table;" true := ⟨RX5, TX5, 3, rfl, by decide, by decide +kernel, by decide +kernel, rfl, rfl, rfl, fun _ h => absurd h (by decide +kernel)⟩
set_option maxRecDepth 100000 in
theorem fa_X5_arrange_39 : FA mX5_arrange 39 3 1 "LScanRing$Table;" true := ⟨RX3, TX3, 4, rfl, by decide, by decide +kernel, by decide +kernel, rfl, rfl, rfl, fun _ h => absurd h (by decide +kernel)⟩
set_option maxRecDepth 100000 in
theorem cl_X5_arrange_42 : CV mX5_arrange 42 mX7_copyFrom 1 := ⟨gX5_arrange_X7_copyFrom, ⟨⟨_, rfl⟩, by decide +kernel, by decide⟩⟩
set_option maxRecDepth 100000 in
theorem fa_X5_arrange_20 : FA mX5_arrange 20 5 1 "LScanRing$Table;" true := ⟨RX5, TX5, 3, rfl, by decide, by decide +kernel, by decide +kernel, rfl, rfl, rfl, fun _ h => absurd h (by decide +kernel)⟩
set_option maxRecDepth 100000 in
theorem cl_X5_arrange_46 : CV mX5_arrange 46 mX7_at 2 := ⟨gX5_arrange_X7_at, ⟨⟨_, rfl⟩, by decide +kernel, by decide⟩⟩
set_option maxRecDepth 100000 in
theorem cl_X5_arrange_50 : CV mX5_arrange 50 mX7_put 3 := ⟨gX5_arrange_X7_put, ⟨⟨_, rfl⟩, by decide +kernel, by decide⟩⟩
abbrev mX3_slotsOfEntry : MD := (yX3_slotsOfEntry, cX3_slotsOfEntry, 2, (some .int), wsX3_slotsOfEntry, ({ frames := 1, cells := 0, slots := 0, locals := 23 } : Room))
set_option maxRecDepth 100000 in
theorem fa_X3_slotsOfEntry_20 : FA mX3_slotsOfEntry 20 3 1 "LScanRing$Table;" true := ⟨RX3, TX3, 4, rfl, by decide, by decide +kernel, by decide +kernel, rfl, rfl, rfl, fun _ h => absurd h (by decide +kernel)⟩
set_option maxRecDepth 100000 in
theorem cl_X3_slotsOfEntry_38 : CV mX3_slotsOfEntry 38 mX7_at 2 := ⟨gX3_slotsOfEntry_X7_at, ⟨⟨_, rfl⟩, by decide +kernel, by decide⟩⟩
abbrev mX3_slotsOfScan : MD := (yX3_slotsOfScan, cX3_slotsOfScan, 3, (some .int), wsX3_slotsOfScan, ({ frames := 2, cells := 0, slots := 0, locals := 44 } : Room))
set_option maxRecDepth 100000 in
theorem fa_X3_slotsOfScan_34 : FA mX3_slotsOfScan 34 3 3 "I" false := ⟨RX3, TX3, 4, rfl, by decide, by decide +kernel, by decide +kernel, rfl, rfl, rfl, fun h => by cases h⟩
set_option maxRecDepth 100000 in
theorem cl_X3_slotsOfScan_45 : CV mX3_slotsOfScan 45 mX3_slotsOfEntry 1 := ⟨gX3_slotsOfScan_X3_slotsOfEntry, ⟨⟨_, rfl⟩, by decide +kernel, by decide⟩⟩
abbrev mX0_start : MD := (yX0_start, cX0_start, 3, none, wsX0_start, ({ frames := 0, cells := 0, slots := 0, locals := 0 } : Room))
set_option maxRecDepth 100000 in
theorem fa_X0_start_9 : FA mX0_start 9 0 0 "F" false := ⟨RX0, TX0, 5, rfl, by decide, by decide +kernel, by decide +kernel, rfl, rfl, rfl, fun h => by cases h⟩
set_option maxRecDepth 100000 in
theorem fa_X0_start_15 : FA mX0_start 15 0 1 "I" false := ⟨RX0, TX0, 5, rfl, by decide, by decide +kernel, by decide +kernel, rfl, rfl, rfl, fun h => by cases h⟩
abbrev mX0_chargeBehind : MD := (yX0_chargeBehind, cX0_chargeBehind, 3, (some .float), wsX0_chargeBehind, ({ frames := 0, cells := 0, slots := 0, locals := 0 } : Room))
abbrev mX3_readingOf : MD := (yX3_readingOf, cX3_readingOf, 2, (some .int), wsX3_readingOf, ({ frames := 2, cells := 0, slots := 0, locals := 44 } : Room))
set_option maxRecDepth 100000 in
theorem cl_X3_readingOf_49 : CV mX3_readingOf 49 mX3_setting 1 := ⟨gX3_readingOf_X3_setting, ⟨⟨_, rfl⟩, by decide +kernel, by decide⟩⟩
set_option maxRecDepth 100000 in
theorem cl_X3_readingOf_67 : CSN mX3_readingOf 67 mX10_readingWith 3 := ⟨gX3_readingOf_X10_readingWith_n67, by decide +kernel, by decide +kernel, by decide +kernel, ⟨⟨_, rfl⟩, by decide +kernel, by decide⟩⟩
abbrev mX0_carryOut : MD := (yX0_carryOut, cX0_carryOut, 7, none, wsX0_carryOut, ({ frames := 3, cells := 0, slots := 0, locals := 68 } : Room))
set_option maxRecDepth 100000 in
theorem cl_X0_carryOut_35 : CV mX0_carryOut 35 mX3_resistanceAt 1 := ⟨gX0_carryOut_X3_resistanceAt, ⟨⟨_, rfl⟩, by decide +kernel, by decide⟩⟩
set_option maxRecDepth 100000 in
theorem fa_X0_carryOut_15 : FA mX0_carryOut 15 0 1 "I" false := ⟨RX0, TX0, 5, rfl, by decide, by decide +kernel, by decide +kernel, rfl, rfl, rfl, fun h => by cases h⟩
set_option maxRecDepth 100000 in
theorem cl_X0_carryOut_39 : CV mX0_carryOut 39 mX3_valueAt 2 := ⟨gX0_carryOut_X3_valueAt, ⟨⟨_, rfl⟩, by decide +kernel, by decide⟩⟩
set_option maxRecDepth 100000 in
theorem fa_X0_carryOut_42 : FA mX0_carryOut 42 0 4 "I" false := ⟨RX0, TX0, 5, rfl, by decide, by decide +kernel, by decide +kernel, rfl, rfl, rfl, fun h => by cases h⟩
set_option maxRecDepth 100000 in
theorem fa_X0_carryOut_9 : FA mX0_carryOut 9 0 0 "F" false := ⟨RX0, TX0, 5, rfl, by decide, by decide +kernel, by decide +kernel, rfl, rfl, rfl, fun h => by cases h⟩
set_option maxRecDepth 100000 in
theorem cl_X0_carryOut_45 : CS mX0_carryOut 45 mX0_chargeBehind 3 := ⟨gX0_carryOut_X0_chargeBehind, ⟨⟨_, rfl⟩, by decide +kernel, by decide⟩⟩
set_option maxRecDepth 100000 in
theorem cl_X0_carryOut_49 : CV mX0_carryOut 49 mX3_readingOf 1 := ⟨gX0_carryOut_X3_readingOf, ⟨⟨_, rfl⟩, by decide +kernel, by decide⟩⟩
set_option maxRecDepth 100000 in
theorem fa_X0_carryOut_53 : FA mX0_carryOut 53 0 2 "I" false := ⟨RX0, TX0, 5, rfl, by decide, by decide +kernel, by decide +kernel, rfl, rfl, rfl, fun h => by cases h⟩
set_option maxRecDepth 100000 in
theorem fa_X0_carryOut_56 : FA mX0_carryOut 56 0 3 "I" false := ⟨RX0, TX0, 5, rfl, by decide, by decide +kernel, by decide +kernel, rfl, rfl, rfl, fun h => by cases h⟩
abbrev mX0_carryOutEntry : MD := (yX0_carryOutEntry, cX0_carryOutEntry, 3, none, wsX0_carryOutEntry, ({ frames := 4, cells := 0, slots := 0, locals := 94 } : Room))
set_option maxRecDepth 100000 in
theorem fa_X0_carryOutEntry_19 : FA mX0_carryOutEntry 19 3 1 "LScanRing$Table;" true := ⟨RX3, TX3, 4, rfl, by decide, by decide +kernel, by decide +kernel, rfl, rfl, rfl, fun _ h => absurd h (by decide +kernel)⟩
set_option maxRecDepth 100000 in
theorem cl_X0_carryOutEntry_25 : CV mX0_carryOutEntry 25 mX7_at 2 := ⟨gX0_carryOutEntry_X7_at, ⟨⟨_, rfl⟩, by decide +kernel, by decide⟩⟩
set_option maxRecDepth 100000 in
theorem cl_X0_carryOutEntry_31 : CV mX0_carryOutEntry 31 mX0_carryOut 3 := ⟨gX0_carryOutEntry_X0_carryOut, ⟨⟨_, rfl⟩, by decide +kernel, by decide⟩⟩
abbrev mX0_error : MD := (yX0_error, cX0_error, 1, (some .int), wsX0_error, ({ frames := 0, cells := 0, slots := 0, locals := 0 } : Room))
set_option maxRecDepth 100000 in
theorem fa_X0_error_53 : FA mX0_error 53 0 2 "I" false := ⟨RX0, TX0, 5, rfl, by decide, by decide +kernel, by decide +kernel, rfl, rfl, rfl, fun h => by cases h⟩
set_option maxRecDepth 100000 in
theorem fa_X0_error_42 : FA mX0_error 42 0 4 "I" false := ⟨RX0, TX0, 5, rfl, by decide, by decide +kernel, by decide +kernel, rfl, rfl, rfl, fun h => by cases h⟩
abbrev mX2_add : MD := (yX2_add, cX2_add, 3, none, wsX2_add, ({ frames := 1, cells := 0, slots := 0, locals := 24 } : Room))
set_option maxRecDepth 100000 in
theorem fa_X2_add_14 : FA mX2_add 14 2 0 "LScanRing$Table;" true := ⟨RX2, TX2, 3, rfl, by decide, by decide +kernel, by decide +kernel, rfl, rfl, rfl, fun _ h => absurd h (by decide +kernel)⟩
set_option maxRecDepth 100000 in
theorem fa_X2_add_24 : FA mX2_add 24 2 1 "I" false := ⟨RX2, TX2, 3, rfl, by decide, by decide +kernel, by decide +kernel, rfl, rfl, rfl, fun h => by cases h⟩
set_option maxRecDepth 100000 in
theorem cl_X2_add_31 : CV mX2_add 31 mX7_put 3 := ⟨gX2_add_X7_put, ⟨⟨_, rfl⟩, by decide +kernel, by decide⟩⟩
set_option maxRecDepth 100000 in
theorem fa_X2_add_35 : FA mX2_add 35 0 1 "I" false := ⟨RX0, TX0, 5, rfl, by decide, by decide +kernel, by decide +kernel, rfl, rfl, rfl, fun h => by cases h⟩
set_option maxRecDepth 100000 in
theorem fa_X2_add_40 : FA mX2_add 40 0 2 "I" false := ⟨RX0, TX0, 5, rfl, by decide, by decide +kernel, by decide +kernel, rfl, rfl, rfl, fun h => by cases h⟩
set_option maxRecDepth 100000 in
theorem fa_X2_add_43 : FA mX2_add 43 0 3 "I" false := ⟨RX0, TX0, 5, rfl, by decide, by decide +kernel, by decide +kernel, rfl, rfl, rfl, fun h => by cases h⟩
set_option maxRecDepth 100000 in
theorem cl_X2_add_46 : CV mX2_add 46 mX0_error 0 := ⟨gX2_add_X0_error, ⟨⟨_, rfl⟩, by decide +kernel, by decide⟩⟩
set_option maxRecDepth 100000 in
theorem fa_X2_add_28 : FA mX2_add 28 2 2 "I" false := ⟨RX2, TX2, 3, rfl, by decide, by decide +kernel, by decide +kernel, rfl, rfl, rfl, fun h => by cases h⟩
set_option maxRecDepth 100000 in
theorem wm_X2_add_50 : WM mX2_add 50 Lib.Math.min.name Lib.Math.min.code 2 := ⟨by decide +kernel, by decide +kernel, by decide +kernel, by decide +kernel, by decide, by decide⟩
abbrev mX6_slotAccountOf : MD := (yX6_slotAccountOf, cX6_slotAccountOf, 1, (some .int), wsX6_slotAccountOf, ({ frames := 0, cells := 0, slots := 0, locals := 0 } : Room))
abbrev mX6_addTo : MD := (yX6_addTo, cX6_addTo, 3, none, wsX6_addTo, ({ frames := 1, cells := 0, slots := 0, locals := 24 } : Room))
set_option maxRecDepth 100000 in
theorem fa_X6_addTo_34 : FA mX6_addTo 34 6 3 "LScanRing$Table;" true := ⟨RX6, TX6, 7, rfl, by decide, by decide +kernel, by decide +kernel, rfl, rfl, rfl, fun _ h => absurd h (by decide +kernel)⟩
set_option maxRecDepth 100000 in
theorem cl_X6_addTo_69 : CV mX6_addTo 69 mX7_at 2 := ⟨gX6_addTo_X7_at, ⟨⟨_, rfl⟩, by decide +kernel, by decide⟩⟩
set_option maxRecDepth 100000 in
theorem cl_X6_addTo_48 : CV mX6_addTo 48 mX7_put 3 := ⟨gX6_addTo_X7_put, ⟨⟨_, rfl⟩, by decide +kernel, by decide⟩⟩
abbrev mX6_book : MD := (yX6_book, cX6_book, 4, none, wsX6_book, ({ frames := 2, cells := 0, slots := 0, locals := 46 } : Room))
set_option maxRecDepth 100000 in
theorem fa_X6_book_21 : FA mX6_book 21 6 1 "LScanRing$Log;" true := ⟨RX6, TX6, 7, rfl, by decide, by decide +kernel, by decide +kernel, rfl, rfl, rfl, fun _ h => absurd h (by decide +kernel)⟩
set_option maxRecDepth 100000 in
theorem cl_X6_book_77 : CV mX6_book 77 mX2_add 2 := ⟨gX6_book_X2_add, ⟨⟨_, rfl⟩, by decide +kernel, by decide⟩⟩
set_option maxRecDepth 100000 in
theorem fa_X6_book_30 : FA mX6_book 30 6 2 "LScanRing$Table;" true := ⟨RX6, TX6, 7, rfl, by decide, by decide +kernel, by decide +kernel, rfl, rfl, rfl, fun _ h => absurd h (by decide +kernel)⟩
set_option maxRecDepth 100000 in
theorem fa_X6_book_81 : FA mX6_book 81 0 2 "I" false := ⟨RX0, TX0, 5, rfl, by decide, by decide +kernel, by decide +kernel, rfl, rfl, rfl, fun h => by cases h⟩
set_option maxRecDepth 100000 in
theorem cl_X6_book_48 : CV mX6_book 48 mX7_put 3 := ⟨gX6_book_X7_put, ⟨⟨_, rfl⟩, by decide +kernel, by decide⟩⟩
set_option maxRecDepth 100000 in
theorem cl_X6_book_87 : CS mX6_book 87 mX6_slotAccountOf 1 := ⟨gX6_book_X6_slotAccountOf, ⟨⟨_, rfl⟩, by decide +kernel, by decide⟩⟩
set_option maxRecDepth 100000 in
theorem cl_X6_book_91 : CV mX6_book 91 mX6_addTo 2 := ⟨gX6_book_X6_addTo, ⟨⟨_, rfl⟩, by decide +kernel, by decide⟩⟩
set_option maxRecDepth 100000 in
theorem fa_X6_book_94 : FA mX6_book 94 0 3 "I" false := ⟨RX0, TX0, 5, rfl, by decide, by decide +kernel, by decide +kernel, rfl, rfl, rfl, fun h => by cases h⟩
set_option maxRecDepth 100000 in
theorem wm_X6_book_97 : WM mX6_book 97 Lib.Math.abs.name Lib.Math.abs.code 1 := ⟨by decide +kernel, by decide +kernel, by decide +kernel, by decide +kernel, by decide, by decide⟩
set_option maxRecDepth 100000 in
theorem fa_X6_book_102 : FA mX6_book 102 0 0 "F" false := ⟨RX0, TX0, 5, rfl, by decide, by decide +kernel, by decide +kernel, rfl, rfl, rfl, fun h => by cases h⟩
set_option maxRecDepth 100000 in
theorem fa_X6_book_65 : FA mX6_book 65 6 6 "F" false := ⟨RX6, TX6, 7, rfl, by decide, by decide +kernel, by decide +kernel, rfl, rfl, rfl, fun h => by cases h⟩
abbrev mX6_snapshotAt : MD := (yX6_snapshotAt, cX6_snapshotAt, 2, (some (.object "ScanRing$Snapshot")), wsX6_snapshotAt, ({ frames := 0, cells := 0, slots := 0, locals := 0 } : Room))
set_option maxRecDepth 100000 in
theorem fa_X6_snapshotAt_40 : FA mX6_snapshotAt 40 6 4 "LScanRing$Snapshot;" true := ⟨RX6, TX6, 7, rfl, by decide, by decide +kernel, by decide +kernel, rfl, rfl, rfl, fun _ h => absurd h (by decide +kernel)⟩
set_option maxRecDepth 100000 in
theorem fa_X6_snapshotAt_44 : FA mX6_snapshotAt 44 6 5 "LScanRing$Snapshot;" true := ⟨RX6, TX6, 7, rfl, by decide, by decide +kernel, by decide +kernel, rfl, rfl, rfl, fun _ h => absurd h (by decide +kernel)⟩
abbrev mJ9_floorMod_7cf53 : MD := (yJ9_floorMod_7cf53, cJ9_floorMod_7cf53, 3, (some .int), wsJ9_floorMod_7cf53, ({ frames := 0, cells := 0, slots := 0, locals := 0 } : Room))
abbrev mX1_bringBack : MD := (yX1_bringBack, cX1_bringBack, 4, none, wsX1_bringBack, ({ frames := 5, cells := 0, slots := 0, locals := 110 } : Room))
set_option maxRecDepth 100000 in
theorem fa_X1_bringBack_18 : FA mX1_bringBack 18 1 1 "I" false := ⟨RX1, TX1, 3, rfl, by decide, by decide +kernel, by decide +kernel, rfl, rfl, rfl, fun h => by cases h⟩
set_option maxRecDepth 100000 in
theorem cl_X1_bringBack_39 : CS mX1_bringBack 39 mJ9_floorMod_7cf53 2 := ⟨gX1_bringBack_J9_floorMod_7cf53, ⟨⟨_, rfl⟩, by decide +kernel, by decide⟩⟩
set_option maxRecDepth 100000 in
theorem cl_X1_bringBack_22 : CV mX1_bringBack 22 mX1_placeAt 1 := ⟨gX1_bringBack_X1_placeAt, ⟨⟨_, rfl⟩, by decide +kernel, by decide⟩⟩
set_option maxRecDepth 100000 in
theorem cl_X1_bringBack_26 : CV mX1_bringBack 26 mX6_copyFrom 1 := ⟨gX1_bringBack_X6_copyFrom, ⟨⟨_, rfl⟩, by decide +kernel, by decide⟩⟩
set_option maxRecDepth 100000 in
theorem fa_X1_bringBack_30 : FA mX1_bringBack 30 1 2 "I" false := ⟨RX1, TX1, 3, rfl, by decide, by decide +kernel, by decide +kernel, rfl, rfl, rfl, fun h => by cases h⟩
abbrev mX9_hasFailed : MD := (yX9_hasFailed, cX9_hasFailed, 1, (some .boolean), wsX9_hasFailed, ({ frames := 0, cells := 0, slots := 0, locals := 0 } : Room))
set_option maxRecDepth 100000 in
theorem fa_X9_hasFailed_33 : FA mX9_hasFailed 33 9 3 "I" false := ⟨RX9, TX9, 4, rfl, by decide, by decide +kernel, by decide +kernel, rfl, rfl, rfl, fun h => by cases h⟩
abbrev mX8_characterAt : MD := (yX8_characterAt, cX8_characterAt, 3, (some .char), wsX8_characterAt, ({ frames := 0, cells := 0, slots := 0, locals := 0 } : Room))
set_option maxRecDepth 100000 in
theorem fa_X8_characterAt_15 : FA mX8_characterAt 15 8 1 "I" false := ⟨RX8, TX8, 2, rfl, by decide, by decide +kernel, by decide +kernel, rfl, rfl, rfl, fun h => by cases h⟩
set_option maxRecDepth 100000 in
theorem fa_X8_characterAt_9 : FA mX8_characterAt 9 8 0 "[C" true := ⟨RX8, TX8, 2, rfl, by decide, by decide +kernel, by decide +kernel, rfl, rfl, rfl, fun _ h => absurd h (by decide +kernel)⟩
abbrev mX9_next : MD := (yX9_next, cX9_next, 1, (some .char), wsX9_next, ({ frames := 1, cells := 0, slots := 0, locals := 22 } : Room))
set_option maxRecDepth 100000 in
theorem fa_X9_next_29 : FA mX9_next 29 9 2 "I" false := ⟨RX9, TX9, 4, rfl, by decide, by decide +kernel, by decide +kernel, rfl, rfl, rfl, fun h => by cases h⟩
set_option maxRecDepth 100000 in
theorem fa_X9_next_12 : FA mX9_next 12 9 0 "LScanRing$Text;" true := ⟨RX9, TX9, 4, rfl, by decide, by decide +kernel, by decide +kernel, rfl, rfl, rfl, fun _ h => absurd h (by decide +kernel)⟩
set_option maxRecDepth 100000 in
theorem cl_X9_next_88 : CV mX9_next 88 mX8_characterAt 1 := ⟨gX9_next_X8_characterAt, ⟨⟨_, rfl⟩, by decide +kernel, by decide⟩⟩
abbrev mX9_failAt : MD := (yX9_failAt, cX9_failAt, 2, none, wsX9_failAt, ({ frames := 1, cells := 0, slots := 0, locals := 20 } : Room))
set_option maxRecDepth 100000 in
theorem cl_X9_failAt_36 : CV mX9_failAt 36 mX9_hasFailed 0 := ⟨gX9_failAt_X9_hasFailed, ⟨⟨_, rfl⟩, by decide +kernel, by decide⟩⟩
set_option maxRecDepth 100000 in
theorem fa_X9_failAt_33 : FA mX9_failAt 33 9 3 "I" false := ⟨RX9, TX9, 4, rfl, by decide, by decide +kernel, by decide +kernel, rfl, rfl, rfl, fun h => by cases h⟩
abbrev mX9_expect : MD := (yX9_expect, cX9_expect, 2, none, wsX9_expect, ({ frames := 2, cells := 0, slots := 0, locals := 42 } : Room))
set_option maxRecDepth 100000 in
theorem cl_X9_expect_40 : CV mX9_expect 40 mX9_next 0 := ⟨gX9_expect_X9_next, ⟨⟨_, rfl⟩, by decide +kernel, by decide⟩⟩
set_option maxRecDepth 100000 in
theorem fa_X9_expect_29 : FA mX9_expect 29 9 2 "I" false := ⟨RX9, TX9, 4, rfl, by decide, by decide +kernel, by decide +kernel, rfl, rfl, rfl, fun h => by cases h⟩
set_option maxRecDepth 100000 in
theorem cl_X9_expect_61 : CV mX9_expect 61 mX9_failAt 1 := ⟨gX9_expect_X9_failAt, ⟨⟨_, rfl⟩, by decide +kernel, by decide⟩⟩
abbrev mX9_isDigit : MD := (yX9_isDigit, cX9_isDigit, 1, (some .boolean), wsX9_isDigit, ({ frames := 0, cells := 0, slots := 0, locals := 0 } : Room))
abbrev mX9_readNumber : MD := (yX9_readNumber, cX9_readNumber, 7, (some .int), wsX9_readNumber, ({ frames := 2, cells := 0, slots := 0, locals := 42 } : Room))
set_option maxRecDepth 100000 in
theorem cl_X9_readNumber_40 : CV mX9_readNumber 40 mX9_next 0 := ⟨gX9_readNumber_X9_next, ⟨⟨_, rfl⟩, by decide +kernel, by decide⟩⟩
set_option maxRecDepth 100000 in
theorem fa_X9_readNumber_29 : FA mX9_readNumber 29 9 2 "I" false := ⟨RX9, TX9, 4, rfl, by decide, by decide +kernel, by decide +kernel, rfl, rfl, rfl, fun h => by cases h⟩
set_option maxRecDepth 100000 in
theorem fa_X9_readNumber_12 : FA mX9_readNumber 12 9 0 "LScanRing$Text;" true := ⟨RX9, TX9, 4, rfl, by decide, by decide +kernel, by decide +kernel, rfl, rfl, rfl, fun _ h => absurd h (by decide +kernel)⟩
set_option maxRecDepth 100000 in
theorem cl_X9_readNumber_88 : CV mX9_readNumber 88 mX8_characterAt 1 := ⟨gX9_readNumber_X8_characterAt, ⟨⟨_, rfl⟩, by decide +kernel, by decide⟩⟩
set_option maxRecDepth 100000 in
theorem cl_X9_readNumber_92 : CS mX9_readNumber 92 mX9_isDigit 1 := ⟨gX9_readNumber_X9_isDigit, ⟨⟨_, rfl⟩, by decide +kernel, by decide⟩⟩
set_option maxRecDepth 100000 in
theorem wm_X9_readNumber_96 : WM mX9_readNumber 96 Lib.Math.min.name Lib.Math.min.code 2 := ⟨by decide +kernel, by decide +kernel, by decide +kernel, by decide +kernel, by decide, by decide⟩
set_option maxRecDepth 100000 in
theorem cl_X9_readNumber_101 : CSN mX9_readNumber 101 mX10_isWithin 3 := ⟨gX9_readNumber_X10_isWithin_n101, by decide +kernel, by decide +kernel, by decide +kernel, ⟨⟨_, rfl⟩, by decide +kernel, by decide⟩⟩
set_option maxRecDepth 100000 in
theorem cl_X9_readNumber_61 : CV mX9_readNumber 61 mX9_failAt 1 := ⟨gX9_readNumber_X9_failAt, ⟨⟨_, rfl⟩, by decide +kernel, by decide⟩⟩
abbrev mX9_readEntry : MD := (yX9_readEntry, cX9_readEntry, 3, none, wsX9_readEntry, ({ frames := 3, cells := 0, slots := 0, locals := 71 } : Room))
set_option maxRecDepth 100000 in
theorem fa_X9_readEntry_21 : FA mX9_readEntry 21 9 1 "LScanRing$Setup;" true := ⟨RX9, TX9, 4, rfl, by decide, by decide +kernel, by decide +kernel, rfl, rfl, rfl, fun _ h => absurd h (by decide +kernel)⟩
set_option maxRecDepth 100000 in
theorem fa_X9_readEntry_82 : FA mX9_readEntry 82 3 3 "I" false := ⟨RX3, TX3, 4, rfl, by decide, by decide +kernel, by decide +kernel, rfl, rfl, rfl, fun h => by cases h⟩
set_option maxRecDepth 100000 in
theorem cl_X9_readEntry_40 : CV mX9_readEntry 40 mX9_next 0 := ⟨gX9_readEntry_X9_next, ⟨⟨_, rfl⟩, by decide +kernel, by decide⟩⟩
set_option maxRecDepth 100000 in
theorem fa_X9_readEntry_29 : FA mX9_readEntry 29 9 2 "I" false := ⟨RX9, TX9, 4, rfl, by decide, by decide +kernel, by decide +kernel, rfl, rfl, rfl, fun h => by cases h⟩
set_option maxRecDepth 100000 in
theorem cl_X9_readEntry_61 : CV mX9_readEntry 61 mX9_failAt 1 := ⟨gX9_readEntry_X9_failAt, ⟨⟨_, rfl⟩, by decide +kernel, by decide⟩⟩
set_option maxRecDepth 100000 in
theorem cl_X9_readEntry_64 : CV mX9_readEntry 64 mX9_expect 1 := ⟨gX9_readEntry_X9_expect, ⟨⟨_, rfl⟩, by decide +kernel, by decide⟩⟩
set_option maxRecDepth 100000 in
theorem cl_X9_readEntry_51 : CV mX9_readEntry 51 mX9_readNumber 2 := ⟨gX9_readEntry_X9_readNumber, ⟨⟨_, rfl⟩, by decide +kernel, by decide⟩⟩
set_option maxRecDepth 100000 in
theorem cl_X9_readEntry_36 : CV mX9_readEntry 36 mX9_hasFailed 0 := ⟨gX9_readEntry_X9_hasFailed, ⟨⟨_, rfl⟩, by decide +kernel, by decide⟩⟩
set_option maxRecDepth 100000 in
theorem cl_X9_readEntry_85 : CV mX9_readEntry 85 mX3_insert 3 := ⟨gX9_readEntry_X3_insert, ⟨⟨_, rfl⟩, by decide +kernel, by decide⟩⟩
abbrev mX9_readSource : MD := (yX9_readSource, cX9_readSource, 8, none, wsX9_readSource, ({ frames := 3, cells := 0, slots := 0, locals := 68 } : Room))
set_option maxRecDepth 100000 in
theorem cl_X9_readSource_51 : CV mX9_readSource 51 mX9_readNumber 2 := ⟨gX9_readSource_X9_readNumber, ⟨⟨_, rfl⟩, by decide +kernel, by decide⟩⟩
set_option maxRecDepth 100000 in
theorem cl_X9_readSource_40 : CV mX9_readSource 40 mX9_next 0 := ⟨gX9_readSource_X9_next, ⟨⟨_, rfl⟩, by decide +kernel, by decide⟩⟩
set_option maxRecDepth 100000 in
theorem fa_X9_readSource_29 : FA mX9_readSource 29 9 2 "I" false := ⟨RX9, TX9, 4, rfl, by decide, by decide +kernel, by decide +kernel, rfl, rfl, rfl, fun h => by cases h⟩
set_option maxRecDepth 100000 in
theorem cl_X9_readSource_64 : CV mX9_readSource 64 mX9_expect 1 := ⟨gX9_readSource_X9_expect, ⟨⟨_, rfl⟩, by decide +kernel, by decide⟩⟩
set_option maxRecDepth 100000 in
theorem cl_X9_readSource_36 : CV mX9_readSource 36 mX9_hasFailed 0 := ⟨gX9_readSource_X9_hasFailed, ⟨⟨_, rfl⟩, by decide +kernel, by decide⟩⟩
set_option maxRecDepth 100000 in
theorem fa_X9_readSource_21 : FA mX9_readSource 21 9 1 "LScanRing$Setup;" true := ⟨RX9, TX9, 4, rfl, by decide, by decide +kernel, by decide +kernel, rfl, rfl, rfl, fun _ h => absurd h (by decide +kernel)⟩
set_option maxRecDepth 100000 in
theorem cl_X9_readSource_68 : CV mX9_readSource 68 mX3_putSource 5 := ⟨gX9_readSource_X3_putSource, ⟨⟨_, rfl⟩, by decide +kernel, by decide⟩⟩
abbrev mX9_readResistance : MD := (yX9_readResistance, cX9_readResistance, 3, none, wsX9_readResistance, ({ frames := 3, cells := 0, slots := 0, locals := 68 } : Room))
set_option maxRecDepth 100000 in
theorem cl_X9_readResistance_51 : CV mX9_readResistance 51 mX9_readNumber 2 := ⟨gX9_readResistance_X9_readNumber, ⟨⟨_, rfl⟩, by decide +kernel, by decide⟩⟩
set_option maxRecDepth 100000 in
theorem cl_X9_readResistance_64 : CV mX9_readResistance 64 mX9_expect 1 := ⟨gX9_readResistance_X9_expect, ⟨⟨_, rfl⟩, by decide +kernel, by decide⟩⟩
set_option maxRecDepth 100000 in
theorem cl_X9_readResistance_36 : CV mX9_readResistance 36 mX9_hasFailed 0 := ⟨gX9_readResistance_X9_hasFailed, ⟨⟨_, rfl⟩, by decide +kernel, by decide⟩⟩
set_option maxRecDepth 100000 in
theorem fa_X9_readResistance_21 : FA mX9_readResistance 21 9 1 "LScanRing$Setup;" true := ⟨RX9, TX9, 4, rfl, by decide, by decide +kernel, by decide +kernel, rfl, rfl, rfl, fun _ h => absurd h (by decide +kernel)⟩
set_option maxRecDepth 100000 in
theorem fa_X9_readResistance_72 : FA mX9_readResistance 72 3 0 "LScanRing$Table;" true := ⟨RX3, TX3, 4, rfl, by decide, by decide +kernel, by decide +kernel, rfl, rfl, rfl, fun _ h => absurd h (by decide +kernel)⟩
set_option maxRecDepth 100000 in
theorem cl_X9_readResistance_76 : CV mX9_readResistance 76 mX7_put 3 := ⟨gX9_readResistance_X7_put, ⟨⟨_, rfl⟩, by decide +kernel, by decide⟩⟩
abbrev mX9_readItem : MD := (yX9_readItem, cX9_readItem, 3, none, wsX9_readItem, ({ frames := 4, cells := 0, slots := 0, locals := 95 } : Room))
set_option maxRecDepth 100000 in
theorem cl_X9_readItem_40 : CV mX9_readItem 40 mX9_next 0 := ⟨gX9_readItem_X9_next, ⟨⟨_, rfl⟩, by decide +kernel, by decide⟩⟩
set_option maxRecDepth 100000 in
theorem fa_X9_readItem_29 : FA mX9_readItem 29 9 2 "I" false := ⟨RX9, TX9, 4, rfl, by decide, by decide +kernel, by decide +kernel, rfl, rfl, rfl, fun h => by cases h⟩
set_option maxRecDepth 100000 in
theorem cl_X9_readItem_47 : CV mX9_readItem 47 mX9_readEntry 1 := ⟨gX9_readItem_X9_readEntry, ⟨⟨_, rfl⟩, by decide +kernel, by decide⟩⟩
set_option maxRecDepth 100000 in
theorem cl_X9_readItem_51 : CV mX9_readItem 51 mX9_readNumber 2 := ⟨gX9_readItem_X9_readNumber, ⟨⟨_, rfl⟩, by decide +kernel, by decide⟩⟩
set_option maxRecDepth 100000 in
theorem cl_X9_readItem_55 : CV mX9_readItem 55 mX9_readSource 1 := ⟨gX9_readItem_X9_readSource, ⟨⟨_, rfl⟩, by decide +kernel, by decide⟩⟩
set_option maxRecDepth 100000 in
theorem cl_X9_readItem_58 : CV mX9_readItem 58 mX9_readResistance 1 := ⟨gX9_readItem_X9_readResistance, ⟨⟨_, rfl⟩, by decide +kernel, by decide⟩⟩
set_option maxRecDepth 100000 in
theorem cl_X9_readItem_61 : CV mX9_readItem 61 mX9_failAt 1 := ⟨gX9_readItem_X9_failAt, ⟨⟨_, rfl⟩, by decide +kernel, by decide⟩⟩
abbrev mX9_readItems : MD := (yX9_readItems, cX9_readItems, 3, (some .int), wsX9_readItems, ({ frames := 5, cells := 0, slots := 0, locals := 117 } : Room))
set_option maxRecDepth 100000 in
theorem fa_X9_readItems_21 : FA mX9_readItems 21 9 1 "LScanRing$Setup;" true := ⟨RX9, TX9, 4, rfl, by decide, by decide +kernel, by decide +kernel, rfl, rfl, rfl, fun _ h => absurd h (by decide +kernel)⟩
set_option maxRecDepth 100000 in
theorem cl_X9_readItems_25 : CV mX9_readItems 25 mX3_copyFrom 1 := ⟨gX9_readItems_X3_copyFrom, ⟨⟨_, rfl⟩, by decide +kernel, by decide⟩⟩
set_option maxRecDepth 100000 in
theorem fa_X9_readItems_29 : FA mX9_readItems 29 9 2 "I" false := ⟨RX9, TX9, 4, rfl, by decide, by decide +kernel, by decide +kernel, rfl, rfl, rfl, fun h => by cases h⟩
set_option maxRecDepth 100000 in
theorem fa_X9_readItems_33 : FA mX9_readItems 33 9 3 "I" false := ⟨RX9, TX9, 4, rfl, by decide, by decide +kernel, by decide +kernel, rfl, rfl, rfl, fun h => by cases h⟩
set_option maxRecDepth 100000 in
theorem cl_X9_readItems_36 : CV mX9_readItems 36 mX9_hasFailed 0 := ⟨gX9_readItems_X9_hasFailed, ⟨⟨_, rfl⟩, by decide +kernel, by decide⟩⟩
set_option maxRecDepth 100000 in
theorem cl_X9_readItems_40 : CV mX9_readItems 40 mX9_next 0 := ⟨gX9_readItems_X9_next, ⟨⟨_, rfl⟩, by decide +kernel, by decide⟩⟩
set_option maxRecDepth 100000 in
theorem cl_X9_readItems_44 : CV mX9_readItems 44 mX9_readItem 0 := ⟨gX9_readItems_X9_readItem, ⟨⟨_, rfl⟩, by decide +kernel, by decide⟩⟩
abbrev mX6_snapshotsTaken : MD := (yX6_snapshotsTaken, cX6_snapshotsTaken, 1, (some .int), wsX6_snapshotsTaken, ({ frames := 0, cells := 0, slots := 0, locals := 0 } : Room))
set_option maxRecDepth 100000 in
theorem fa_X6_snapshotsTaken_40 : FA mX6_snapshotsTaken 40 6 4 "LScanRing$Snapshot;" true := ⟨RX6, TX6, 7, rfl, by decide, by decide +kernel, by decide +kernel, rfl, rfl, rfl, fun _ h => absurd h (by decide +kernel)⟩
set_option maxRecDepth 100000 in
theorem fa_X6_snapshotsTaken_73 : FA mX6_snapshotsTaken 73 4 1 "Z" false := ⟨RX4, TX4, 2, rfl, by decide, by decide +kernel, by decide +kernel, rfl, rfl, rfl, fun h => by cases h⟩
set_option maxRecDepth 100000 in
theorem fa_X6_snapshotsTaken_44 : FA mX6_snapshotsTaken 44 6 5 "LScanRing$Snapshot;" true := ⟨RX6, TX6, 7, rfl, by decide, by decide +kernel, by decide +kernel, rfl, rfl, rfl, fun _ h => absurd h (by decide +kernel)⟩
abbrev mX3_sourcesOf : MD := (yX3_sourcesOf, cX3_sourcesOf, 4, (some .int), wsX3_sourcesOf, ({ frames := 1, cells := 0, slots := 0, locals := 23 } : Room))
set_option maxRecDepth 100000 in
theorem fa_X3_sourcesOf_14 : FA mX3_sourcesOf 14 3 0 "LScanRing$Table;" true := ⟨RX3, TX3, 4, rfl, by decide, by decide +kernel, by decide +kernel, rfl, rfl, rfl, fun _ h => absurd h (by decide +kernel)⟩
set_option maxRecDepth 100000 in
theorem cl_X3_sourcesOf_38 : CV mX3_sourcesOf 38 mX7_at 2 := ⟨gX3_sourcesOf_X7_at, ⟨⟨_, rfl⟩, by decide +kernel, by decide⟩⟩
abbrev mX6_correctedReading : MD := (yX6_correctedReading, cX6_correctedReading, 5, (some .int), wsX6_correctedReading, ({ frames := 2, cells := 0, slots := 0, locals := 44 } : Room))
set_option maxRecDepth 100000 in
theorem fa_X6_correctedReading_30 : FA mX6_correctedReading 30 6 2 "LScanRing$Table;" true := ⟨RX6, TX6, 7, rfl, by decide, by decide +kernel, by decide +kernel, rfl, rfl, rfl, fun _ h => absurd h (by decide +kernel)⟩
set_option maxRecDepth 100000 in
theorem cl_X6_correctedReading_69 : CV mX6_correctedReading 69 mX7_at 2 := ⟨gX6_correctedReading_X7_at, ⟨⟨_, rfl⟩, by decide +kernel, by decide⟩⟩
set_option maxRecDepth 100000 in
theorem kc_X6_correctedReading_47 : Cond.constant mX6_correctedReading.1.cls 47 (-10000009) ∈ y_ws mX6_correctedReading := by decide +kernel
set_option maxRecDepth 100000 in
theorem fa_X6_correctedReading_12 : FA mX6_correctedReading 12 6 0 "LScanRing$Setup;" true := ⟨RX6, TX6, 7, rfl, by decide, by decide +kernel, by decide +kernel, rfl, rfl, rfl, fun _ h => absurd h (by decide +kernel)⟩
set_option maxRecDepth 100000 in
theorem cl_X6_correctedReading_103 : CV mX6_correctedReading 103 mX3_setting 1 := ⟨gX6_correctedReading_X3_setting, ⟨⟨_, rfl⟩, by decide +kernel, by decide⟩⟩
set_option maxRecDepth 100000 in
theorem cl_X6_correctedReading_106 : CS mX6_correctedReading 106 mJ9_floorDiv_7cf53 2 := ⟨gX6_correctedReading_J9_floorDiv_7cf53, ⟨⟨_, rfl⟩, by decide +kernel, by decide⟩⟩
abbrev mX3_entriesOf : MD := (yX3_entriesOf, cX3_entriesOf, 4, (some .int), wsX3_entriesOf, ({ frames := 1, cells := 0, slots := 0, locals := 23 } : Room))
set_option maxRecDepth 100000 in
theorem fa_X3_entriesOf_34 : FA mX3_entriesOf 34 3 3 "I" false := ⟨RX3, TX3, 4, rfl, by decide, by decide +kernel, by decide +kernel, rfl, rfl, rfl, fun h => by cases h⟩
set_option maxRecDepth 100000 in
theorem fa_X3_entriesOf_20 : FA mX3_entriesOf 20 3 1 "LScanRing$Table;" true := ⟨RX3, TX3, 4, rfl, by decide, by decide +kernel, by decide +kernel, rfl, rfl, rfl, fun _ h => absurd h (by decide +kernel)⟩
set_option maxRecDepth 100000 in
theorem cl_X3_entriesOf_38 : CV mX3_entriesOf 38 mX7_at 2 := ⟨gX3_entriesOf_X7_at, ⟨⟨_, rfl⟩, by decide +kernel, by decide⟩⟩
abbrev mX2_part : MD := (yX2_part, cX2_part, 3, (some .int), wsX2_part, ({ frames := 1, cells := 0, slots := 0, locals := 23 } : Room))
set_option maxRecDepth 100000 in
theorem fa_X2_part_14 : FA mX2_part 14 2 0 "LScanRing$Table;" true := ⟨RX2, TX2, 3, rfl, by decide, by decide +kernel, by decide +kernel, rfl, rfl, rfl, fun _ h => absurd h (by decide +kernel)⟩
set_option maxRecDepth 100000 in
theorem fa_X2_part_24 : FA mX2_part 24 2 1 "I" false := ⟨RX2, TX2, 3, rfl, by decide, by decide +kernel, by decide +kernel, rfl, rfl, rfl, fun h => by cases h⟩
set_option maxRecDepth 100000 in
theorem cl_X2_part_56 : CS mX2_part 56 mJ9_floorMod_7cf53 2 := ⟨gX2_part_J9_floorMod_7cf53, ⟨⟨_, rfl⟩, by decide +kernel, by decide⟩⟩
set_option maxRecDepth 100000 in
theorem cl_X2_part_59 : CV mX2_part 59 mX7_at 2 := ⟨gX2_part_X7_at, ⟨⟨_, rfl⟩, by decide +kernel, by decide⟩⟩
abbrev mJ9_abs_0f7a4 : MD := (yJ9_abs_0f7a4, cJ9_abs_0f7a4, 1, (some .int), wsJ9_abs_0f7a4, ({ frames := 0, cells := 0, slots := 0, locals := 0 } : Room))
abbrev mJ9_max_7cf53 : MD := (yJ9_max_7cf53, cJ9_max_7cf53, 2, (some .int), wsJ9_max_7cf53, ({ frames := 0, cells := 0, slots := 0, locals := 0 } : Room))
abbrev mJ9_min_7cf53 : MD := (yJ9_min_7cf53, cJ9_min_7cf53, 2, (some .int), wsJ9_min_7cf53, ({ frames := 0, cells := 0, slots := 0, locals := 0 } : Room))
