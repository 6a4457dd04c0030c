theorem dX0_init_0 : decode cX0_init 0 = .ok (.aload_n 0, 1) := by decide +kernel
theorem dX0_init_1 : decode cX0_init 1 = .ok (.invokespecial 3, 3) := by decide +kernel
theorem dX0_init_4 : decode cX0_init 4 = .ok (.return_, 1) := by decide +kernel
theorem dX0_start_0 : decode cX0_start 0 = .ok (.aload_n 0, 1) := by decide +kernel
theorem dX0_start_1 : decode cX0_start 1 = .ok (.fload_n 1, 1) := by decide +kernel
theorem dX0_start_2 : decode cX0_start 2 = .ok (.putfield 9, 3) := by decide +kernel
theorem dX0_start_5 : decode cX0_start 5 = .ok (.aload_n 0, 1) := by decide +kernel
theorem dX0_start_6 : decode cX0_start 6 = .ok (.iload_n 2, 1) := by decide +kernel
theorem dX0_start_7 : decode cX0_start 7 = .ok (.putfield 15, 3) := by decide +kernel
theorem dX0_start_10 : decode cX0_start 10 = .ok (.return_, 1) := by decide +kernel
set_option maxRecDepth 20000 in
theorem ggX0_carryOutEntry_X7_at : GoodIn wsX0_carryOutEntry wsX7_at := goodIn_r _ [6, 7, 8, 66, 67] (by decide +kernel) (by decide +kernel)
set_option maxRecDepth 20000 in
theorem gX0_carryOutEntry_X7_at : GoodIn wsX0_carryOutEntry (wsV RX0 25 RX7 yX7_at wsX7_at) := goodIn_app (goodIn_of _ (by decide +kernel)) ggX0_carryOutEntry_X7_at
set_option maxRecDepth 20000 in
theorem ggX0_carryOutEntry_X0_carryOut : GoodIn wsX0_carryOutEntry wsX0_carryOut := goodIn_r _ [13, 14, 15, 16, 17, 18, 19, 20, 21, 22, 23, 24, 25, 3, 4, 5, 6, 7, 8, 26, 27, 28, 29, 30, 31, 32, 33, 34, 35, 36, 37, 38, 39, 40, 41, 42, 43, 44, 45, 46, 47, 48, 49, 50, 12, 51, 52, 53, 54, 55, 56, 57, 58, 59, 60, 61, 68, 69, 70, 71, 72, 62, 63, 64, 65, 66, 67] (by decide +kernel) (by decide +kernel)
set_option maxRecDepth 20000 in
theorem gX0_carryOutEntry_X0_carryOut : GoodIn wsX0_carryOutEntry (wsV RX0 31 RX0 yX0_carryOut wsX0_carryOut) := goodIn_app (goodIn_of _ (by decide +kernel)) ggX0_carryOutEntry_X0_carryOut
theorem dX0_carryOutEntry_0 : decode cX0_carryOutEntry 0 = .ok (.aload_n 0, 1) := by decide +kernel
theorem dX0_carryOutEntry_1 : decode cX0_carryOutEntry 1 = .ok (.aload_n 1, 1) := by decide +kernel
theorem dX0_carryOutEntry_2 : decode cX0_carryOutEntry 2 = .ok (.aload_n 1, 1) := by decide +kernel
theorem dX0_carryOutEntry_3 : decode cX0_carryOutEntry 3 = .ok (.getfield 19, 3) := by decide +kernel
theorem dX0_carryOutEntry_6 : decode cX0_carryOutEntry 6 = .ok (.iload_n 2, 1) := by decide +kernel
theorem dX0_carryOutEntry_7 : decode cX0_carryOutEntry 7 = .ok (.iconst 0, 1) := by decide +kernel
theorem dX0_carryOutEntry_8 : decode cX0_carryOutEntry 8 = .ok (.invokevirtual 25, 3) := by decide +kernel
theorem dX0_carryOutEntry_11 : decode cX0_carryOutEntry 11 = .ok (.aload_n 1, 1) := by decide +kernel
theorem dX0_carryOutEntry_12 : decode cX0_carryOutEntry 12 = .ok (.getfield 19, 3) := by decide +kernel
theorem dX0_carryOutEntry_15 : decode cX0_carryOutEntry 15 = .ok (.iload_n 2, 1) := by decide +kernel
theorem dX0_carryOutEntry_16 : decode cX0_carryOutEntry 16 = .ok (.iconst 1, 1) := by decide +kernel
theorem dX0_carryOutEntry_17 : decode cX0_carryOutEntry 17 = .ok (.invokevirtual 25, 3) := by decide +kernel
theorem dX0_carryOutEntry_20 : decode cX0_carryOutEntry 20 = .ok (.invokevirtual 31, 3) := by decide +kernel
theorem dX0_carryOutEntry_23 : decode cX0_carryOutEntry 23 = .ok (.return_, 1) := by decide +kernel
set_option maxRecDepth 20000 in
theorem ggX0_carryOut_X3_resistanceAt : GoodIn wsX0_carryOut wsX3_resistanceAt := goodIn_r _ [10, 11, 12, 13, 14, 15, 16, 17, 18, 61, 62, 63, 64, 65, 66] (by decide +kernel) (by decide +kernel)
set_option maxRecDepth 20000 in
theorem gX0_carryOut_X3_resistanceAt : GoodIn wsX0_carryOut (wsV RX0 35 RX3 yX3_resistanceAt wsX3_resistanceAt) := goodIn_app (goodIn_of _ (by decide +kernel)) ggX0_carryOut_X3_resistanceAt
set_option maxRecDepth 20000 in
theorem ggX0_carryOut_X3_valueAt : GoodIn wsX0_carryOut wsX3_valueAt := goodIn_r _ [22, 11, 23, 24, 25, 26, 27, 28, 29, 30, 31, 32, 9, 33, 34, 12, 13, 14, 15, 16, 17, 18, 35, 36, 37, 38, 39, 40, 41, 61, 62, 63, 64, 65, 66] (by decide +kernel) (by decide +kernel)
set_option maxRecDepth 20000 in
theorem gX0_carryOut_X3_valueAt : GoodIn wsX0_carryOut (wsV RX0 39 RX3 yX3_valueAt wsX3_valueAt) := goodIn_app (goodIn_of _ (by decide +kernel)) ggX0_carryOut_X3_valueAt
set_option maxRecDepth 20000 in
theorem ggX0_carryOut_X0_chargeBehind : GoodIn wsX0_carryOut wsX0_chargeBehind := goodIn_r _ [45] (by decide +kernel) (by decide +kernel)
set_option maxRecDepth 20000 in
theorem gX0_carryOut_X0_chargeBehind : GoodIn wsX0_carryOut (va_wsS RX0 45 yX0_chargeBehind wsX0_chargeBehind) := goodIn_app (goodIn_of _ (by decide +kernel)) ggX0_carryOut_X0_chargeBehind
set_option maxRecDepth 20000 in
theorem ggX0_carryOut_X3_readingOf : GoodIn wsX0_carryOut wsX3_readingOf := goodIn_r _ [49, 30, 31, 32, 9, 33, 34, 12, 13, 14, 15, 16, 17, 18, 50, 51, 52, 53, 54, 55, 24, 25, 26, 61, 62, 63, 64, 65, 66] (by decide +kernel) (by decide +kernel)
set_option maxRecDepth 20000 in
theorem gX0_carryOut_X3_readingOf : GoodIn wsX0_carryOut (wsV RX0 49 RX3 yX3_readingOf wsX3_readingOf) := goodIn_app (goodIn_of _ (by decide +kernel)) ggX0_carryOut_X3_readingOf
theorem dX0_carryOut_0 : decode cX0_carryOut 0 = .ok (.aload_n 1, 1) := by decide +kernel
theorem dX0_carryOut_1 : decode cX0_carryOut 1 = .ok (.iload_n 2, 1) := by decide +kernel
theorem dX0_carryOut_2 : decode cX0_carryOut 2 = .ok (.invokevirtual 35, 3) := by decide +kernel
theorem dX0_carryOut_5 : decode cX0_carryOut 5 = .ok (.istore 4, 2) := by decide +kernel
theorem dX0_carryOut_7 : decode cX0_carryOut 7 = .ok (.fconst 0, 1) := by decide +kernel
theorem dX0_carryOut_8 : decode cX0_carryOut 8 = .ok (.fstore 5, 2) := by decide +kernel
theorem dX0_carryOut_10 : decode cX0_carryOut 10 = .ok (.iconst 0, 1) := by decide +kernel
theorem dX0_carryOut_11 : decode cX0_carryOut 11 = .ok (.istore 6, 2) := by decide +kernel
theorem dX0_carryOut_13 : decode cX0_carryOut 13 = .ok (.iload 6, 2) := by decide +kernel
theorem dX0_carryOut_15 : decode cX0_carryOut 15 = .ok (.iload_n 3, 1) := by decide +kernel
theorem dX0_carryOut_16 : decode cX0_carryOut 16 = .ok (.if_icmp .gt 64, 3) := by decide +kernel
theorem dX0_carryOut_19 : decode cX0_carryOut 19 = .ok (.aload_n 0, 1) := by decide +kernel
theorem dX0_carryOut_20 : decode cX0_carryOut 20 = .ok (.aload_n 1, 1) := by decide +kernel
theorem dX0_carryOut_21 : decode cX0_carryOut 21 = .ok (.iload_n 2, 1) := by decide +kernel
theorem dX0_carryOut_22 : decode cX0_carryOut 22 = .ok (.aload_n 0, 1) := by decide +kernel
theorem dX0_carryOut_23 : decode cX0_carryOut 23 = .ok (.getfield 15, 3) := by decide +kernel
theorem dX0_carryOut_26 : decode cX0_carryOut 26 = .ok (.invokevirtual 39, 3) := by decide +kernel
theorem dX0_carryOut_29 : decode cX0_carryOut 29 = .ok (.putfield 42, 3) := by decide +kernel
theorem dX0_carryOut_32 : decode cX0_carryOut 32 = .ok (.aload_n 0, 1) := by decide +kernel
theorem dX0_carryOut_33 : decode cX0_carryOut 33 = .ok (.aload_n 0, 1) := by decide +kernel
theorem dX0_carryOut_34 : decode cX0_carryOut 34 = .ok (.getfield 9, 3) := by decide +kernel
theorem dX0_carryOut_37 : decode cX0_carryOut 37 = .ok (.aload_n 0, 1) := by decide +kernel
theorem dX0_carryOut_38 : decode cX0_carryOut 38 = .ok (.getfield 42, 3) := by decide +kernel
theorem dX0_carryOut_41 : decode cX0_carryOut 41 = .ok (.i2f, 1) := by decide +kernel
theorem dX0_carryOut_42 : decode cX0_carryOut 42 = .ok (.iload 4, 2) := by decide +kernel
theorem dX0_carryOut_44 : decode cX0_carryOut 44 = .ok (.invokestatic 45, 3) := by decide +kernel
theorem dX0_carryOut_47 : decode cX0_carryOut 47 = .ok (.putfield 9, 3) := by decide +kernel
theorem dX0_carryOut_50 : decode cX0_carryOut 50 = .ok (.fload 5, 2) := by decide +kernel
theorem dX0_carryOut_52 : decode cX0_carryOut 52 = .ok (.aload_n 0, 1) := by decide +kernel
theorem dX0_carryOut_53 : decode cX0_carryOut 53 = .ok (.getfield 42, 3) := by decide +kernel
theorem dX0_carryOut_56 : decode cX0_carryOut 56 = .ok (.i2f, 1) := by decide +kernel
theorem dX0_carryOut_57 : decode cX0_carryOut 57 = .ok (.iload 4, 2) := by decide +kernel
theorem dX0_carryOut_59 : decode cX0_carryOut 59 = .ok (.invokestatic 45, 3) := by decide +kernel
theorem dX0_carryOut_62 : decode cX0_carryOut 62 = .ok (.fstore 5, 2) := by decide +kernel
theorem dX0_carryOut_64 : decode cX0_carryOut 64 = .ok (.aload_n 0, 1) := by decide +kernel
theorem dX0_carryOut_65 : decode cX0_carryOut 65 = .ok (.dup, 1) := by decide +kernel
theorem dX0_carryOut_66 : decode cX0_carryOut 66 = .ok (.getfield 15, 3) := by decide +kernel
theorem dX0_carryOut_69 : decode cX0_carryOut 69 = .ok (.iconst 1, 1) := by decide +kernel
theorem dX0_carryOut_70 : decode cX0_carryOut 70 = .ok (.iadd, 1) := by decide +kernel
theorem dX0_carryOut_71 : decode cX0_carryOut 71 = .ok (.putfield 15, 3) := by decide +kernel
theorem dX0_carryOut_74 : decode cX0_carryOut 74 = .ok (.iinc 6 1, 3) := by decide +kernel
theorem dX0_carryOut_77 : decode cX0_carryOut 77 = .ok (.goto (-64), 3) := by decide +kernel
theorem dX0_carryOut_80 : decode cX0_carryOut 80 = .ok (.aload_n 0, 1) := by decide +kernel
theorem dX0_carryOut_81 : decode cX0_carryOut 81 = .ok (.aload_n 1, 1) := by decide +kernel
theorem dX0_carryOut_82 : decode cX0_carryOut 82 = .ok (.aload_n 0, 1) := by decide +kernel
theorem dX0_carryOut_83 : decode cX0_carryOut 83 = .ok (.getfield 9, 3) := by decide +kernel
theorem dX0_carryOut_86 : decode cX0_carryOut 86 = .ok (.invokevirtual 49, 3) := by decide +kernel
theorem dX0_carryOut_89 : decode cX0_carryOut 89 = .ok (.putfield 53, 3) := by decide +kernel
theorem dX0_carryOut_92 : decode cX0_carryOut 92 = .ok (.aload_n 0, 1) := by decide +kernel
theorem dX0_carryOut_93 : decode cX0_carryOut 93 = .ok (.aload_n 0, 1) := by decide +kernel
theorem dX0_carryOut_94 : decode cX0_carryOut 94 = .ok (.getfield 53, 3) := by decide +kernel
theorem dX0_carryOut_97 : decode cX0_carryOut 97 = .ok (.aload_n 1, 1) := by decide +kernel
theorem dX0_carryOut_98 : decode cX0_carryOut 98 = .ok (.fload 5, 2) := by decide +kernel
theorem dX0_carryOut_100 : decode cX0_carryOut 100 = .ok (.invokevirtual 49, 3) := by decide +kernel
theorem dX0_carryOut_103 : decode cX0_carryOut 103 = .ok (.isub, 1) := by decide +kernel
theorem dX0_carryOut_104 : decode cX0_carryOut 104 = .ok (.putfield 56, 3) := by decide +kernel
theorem dX0_carryOut_107 : decode cX0_carryOut 107 = .ok (.return_, 1) := by decide +kernel
theorem dX0_error_0 : decode cX0_error 0 = .ok (.aload_n 0, 1) := by decide +kernel
theorem dX0_error_1 : decode cX0_error 1 = .ok (.getfield 53, 3) := by decide +kernel
theorem dX0_error_4 : decode cX0_error 4 = .ok (.aload_n 0, 1) := by decide +kernel
theorem dX0_error_5 : decode cX0_error 5 = .ok (.getfield 42, 3) := by decide +kernel
theorem dX0_error_8 : decode cX0_error 8 = .ok (.isub, 1) := by decide +kernel
theorem dX0_error_9 : decode cX0_error 9 = .ok (.ireturn, 1) := by decide +kernel
theorem dX0_chargeBehind_0 : decode cX0_chargeBehind 0 = .ok (.iload_n 2, 1) := by decide +kernel
theorem dX0_chargeBehind_1 : decode cX0_chargeBehind 1 = .ok (.ifCond .gt 7, 3) := by decide +kernel
theorem dX0_chargeBehind_4 : decode cX0_chargeBehind 4 = .ok (.fload_n 1, 1) := by decide +kernel
theorem dX0_chargeBehind_5 : decode cX0_chargeBehind 5 = .ok (.goto 13, 3) := by decide +kernel
theorem dX0_chargeBehind_8 : decode cX0_chargeBehind 8 = .ok (.fload_n 0, 1) := by decide +kernel
theorem dX0_chargeBehind_9 : decode cX0_chargeBehind 9 = .ok (.fload_n 1, 1) := by decide +kernel
theorem dX0_chargeBehind_10 : decode cX0_chargeBehind 10 = .ok (.fload_n 0, 1) := by decide +kernel
theorem dX0_chargeBehind_11 : decode cX0_chargeBehind 11 = .ok (.fsub, 1) := by decide +kernel
theorem dX0_chargeBehind_12 : decode cX0_chargeBehind 12 = .ok (.iconst 1, 1) := by decide +kernel
theorem dX0_chargeBehind_13 : decode cX0_chargeBehind 13 = .ok (.iload_n 2, 1) := by decide +kernel
theorem dX0_chargeBehind_14 : decode cX0_chargeBehind 14 = .ok (.iadd, 1) := by decide +kernel
theorem dX0_chargeBehind_15 : decode cX0_chargeBehind 15 = .ok (.i2f, 1) := by decide +kernel
theorem dX0_chargeBehind_16 : decode cX0_chargeBehind 16 = .ok (.fdiv, 1) := by decide +kernel
theorem dX0_chargeBehind_17 : decode cX0_chargeBehind 17 = .ok (.fadd, 1) := by decide +kernel
theorem dX0_chargeBehind_18 : decode cX0_chargeBehind 18 = .ok (.freturn, 1) := by decide +kernel
set_option maxRecDepth 20000 in
theorem ggX1_init_X6_init : GoodIn wsX1_init wsX6_init := goodIn_r _ [10, 11, 2, 3, 12, 13, 14, 15, 16, 17, 18, 19, 20, 21, 22, 23, 24, 25, 26, 27, 28, 29, 30, 31, 32, 33, 34, 35, 36, 37, 38, 39, 40, 41, 42, 43, 44, 45, 46, 47, 48, 49, 50, 51, 52, 53, 54, 55, 56, 57, 58, 59, 60, 61, 62, 63, 64, 65, 66, 67, 78, 79, 80, 81, 71, 72, 73, 74, 75, 76, 77, 82, 83, 84, 85, 86, 87, 88] (by decide +kernel) (by decide +kernel)
set_option maxRecDepth 20000 in
theorem gX1_init_X6_init : GoodIn wsX1_init (wsX6_init) := ggX1_init_X6_init
theorem dX1_init_0 : decode cX1_init 0 = .ok (.aload_n 0, 1) := by decide +kernel
theorem dX1_init_1 : decode cX1_init 1 = .ok (.invokespecial 3, 3) := by decide +kernel
theorem dX1_init_4 : decode cX1_init 4 = .ok (.aload_n 0, 1) := by decide +kernel
theorem dX1_init_5 : decode cX1_init 5 = .ok (.iconst 5, 1) := by decide +kernel
theorem dX1_init_6 : decode cX1_init 6 = .ok (.anewarray 9, 3) := by decide +kernel
theorem dX1_init_9 : decode cX1_init 9 = .ok (.putfield 11, 3) := by decide +kernel
theorem dX1_init_12 : decode cX1_init 12 = .ok (.iconst 0, 1) := by decide +kernel
theorem dX1_init_13 : decode cX1_init 13 = .ok (.istore_n 1, 1) := by decide +kernel
theorem dX1_init_14 : decode cX1_init 14 = .ok (.iload_n 1, 1) := by decide +kernel
theorem dX1_init_15 : decode cX1_init 15 = .ok (.aload_n 0, 1) := by decide +kernel
theorem dX1_init_16 : decode cX1_init 16 = .ok (.getfield 11, 3) := by decide +kernel
theorem dX1_init_19 : decode cX1_init 19 = .ok (.arraylength, 1) := by decide +kernel
theorem dX1_init_20 : decode cX1_init 20 = .ok (.if_icmp .ge 22, 3) := by decide +kernel
theorem dX1_init_23 : decode cX1_init 23 = .ok (.aload_n 0, 1) := by decide +kernel
theorem dX1_init_24 : decode cX1_init 24 = .ok (.getfield 11, 3) := by decide +kernel
theorem dX1_init_27 : decode cX1_init 27 = .ok (.iload_n 1, 1) := by decide +kernel
theorem dX1_init_28 : decode cX1_init 28 = .ok (.new 9, 3) := by decide +kernel
theorem dX1_init_31 : decode cX1_init 31 = .ok (.dup, 1) := by decide +kernel
theorem dX1_init_32 : decode cX1_init 32 = .ok (.invokespecial 17, 3) := by decide +kernel
theorem dX1_init_35 : decode cX1_init 35 = .ok (.aastore, 1) := by decide +kernel
theorem dX1_init_36 : decode cX1_init 36 = .ok (.iinc 1 1, 3) := by decide +kernel
theorem dX1_init_39 : decode cX1_init 39 = .ok (.goto (-25), 3) := by decide +kernel
theorem dX1_init_42 : decode cX1_init 42 = .ok (.return_, 1) := by decide +kernel
set_option maxRecDepth 20000 in
theorem ggX1_keep_X1_placeAt : GoodIn wsX1_keep wsX1_placeAt := goodIn_r _ [11, 12, 63, 64, 65] (by decide +kernel) (by decide +kernel)
set_option maxRecDepth 20000 in
theorem gX1_keep_X1_placeAt : GoodIn wsX1_keep (wsV RX1 22 RX1 yX1_placeAt wsX1_placeAt) := goodIn_app (goodIn_of _ (by decide +kernel)) ggX1_keep_X1_placeAt
set_option maxRecDepth 20000 in
theorem ggX1_keep_X6_copyFrom : GoodIn wsX1_keep wsX6_copyFrom := goodIn_r _ [17, 18, 19, 20, 21, 22, 23, 24, 25, 26, 27, 28, 29, 30, 31, 32, 33, 34, 35, 36, 37, 38, 39, 40, 4, 5, 6, 41, 42, 43, 44, 45, 46, 47, 48, 49, 50, 51, 52, 53, 54, 55, 56, 57, 58, 59, 60, 61, 62, 66, 67, 68, 69, 70, 71, 72, 73, 74, 75, 76, 77, 78, 79, 80, 81, 82, 83] (by decide +kernel) (by decide +kernel)
set_option maxRecDepth 20000 in
theorem gX1_keep_X6_copyFrom : GoodIn wsX1_keep (wsV RX1 26 RX6 yX6_copyFrom wsX6_copyFrom) := goodIn_app (goodIn_of _ (by decide +kernel)) ggX1_keep_X6_copyFrom
theorem dX1_keep_0 : decode cX1_keep 0 = .ok (.aload_n 0, 1) := by decide +kernel
theorem dX1_keep_1 : decode cX1_keep 1 = .ok (.aload_n 0, 1) := by decide +kernel
theorem dX1_keep_2 : decode cX1_keep 2 = .ok (.getfield 18, 3) := by decide +kernel
theorem dX1_keep_5 : decode cX1_keep 5 = .ok (.invokevirtual 22, 3) := by decide +kernel
theorem dX1_keep_8 : decode cX1_keep 8 = .ok (.astore_n 2, 1) := by decide +kernel
theorem dX1_keep_9 : decode cX1_keep 9 = .ok (.aload_n 2, 1) := by decide +kernel
theorem dX1_keep_10 : decode cX1_keep 10 = .ok (.ifnull 34, 3) := by decide +kernel
theorem dX1_keep_13 : decode cX1_keep 13 = .ok (.aload_n 2, 1) := by decide +kernel
theorem dX1_keep_14 : decode cX1_keep 14 = .ok (.aload_n 1, 1) := by decide +kernel
theorem dX1_keep_15 : decode cX1_keep 15 = .ok (.invokevirtual 26, 3) := by decide +kernel
theorem dX1_keep_18 : decode cX1_keep 18 = .ok (.aload_n 0, 1) := by decide +kernel
theorem dX1_keep_19 : decode cX1_keep 19 = .ok (.aload_n 0, 1) := by decide +kernel
theorem dX1_keep_20 : decode cX1_keep 20 = .ok (.getfield 18, 3) := by decide +kernel
theorem dX1_keep_23 : decode cX1_keep 23 = .ok (.iconst 1, 1) := by decide +kernel
theorem dX1_keep_24 : decode cX1_keep 24 = .ok (.iadd, 1) := by decide +kernel
theorem dX1_keep_25 : decode cX1_keep 25 = .ok (.iconst 5, 1) := by decide +kernel
theorem dX1_keep_26 : decode cX1_keep 26 = .ok (.irem, 1) := by decide +kernel
theorem dX1_keep_27 : decode cX1_keep 27 = .ok (.putfield 18, 3) := by decide +kernel
theorem dX1_keep_30 : decode cX1_keep 30 = .ok (.aload_n 0, 1) := by decide +kernel
theorem dX1_keep_31 : decode cX1_keep 31 = .ok (.aload_n 0, 1) := by decide +kernel
theorem dX1_keep_32 : decode cX1_keep 32 = .ok (.getfield 30, 3) := by decide +kernel
theorem dX1_keep_35 : decode cX1_keep 35 = .ok (.iconst 1, 1) := by decide +kernel
theorem dX1_keep_36 : decode cX1_keep 36 = .ok (.iadd, 1) := by decide +kernel
theorem dX1_keep_37 : decode cX1_keep 37 = .ok (.iconst 5, 1) := by decide +kernel
theorem dX1_keep_38 : decode cX1_keep 38 = .ok (.invokestatic 33, 3) := by decide +kernel
theorem dX1_keep_41 : decode cX1_keep 41 = .ok (.putfield 30, 3) := by decide +kernel
theorem dX1_keep_44 : decode cX1_keep 44 = .ok (.return_, 1) := by decide +kernel
set_option maxRecDepth 20000 in
theorem ggX1_bringBack_J9_floorMod_7cf53 : GoodIn wsX1_bringBack wsJ9_floorMod_7cf53 := goodIn_r _ [6] (by decide +kernel) (by decide +kernel)
set_option maxRecDepth 20000 in
theorem gX1_bringBack_J9_floorMod_7cf53 : GoodIn wsX1_bringBack (va_wsS RX1 39 yJ9_floorMod_7cf53 wsJ9_floorMod_7cf53) := goodIn_app (goodIn_of _ (by decide +kernel)) ggX1_bringBack_J9_floorMod_7cf53
set_option maxRecDepth 20000 in
theorem ggX1_bringBack_X1_placeAt : GoodIn wsX1_bringBack wsX1_placeAt := goodIn_r _ [11, 12, 66, 67, 68] (by decide +kernel) (by decide +kernel)
set_option maxRecDepth 20000 in
theorem gX1_bringBack_X1_placeAt : GoodIn wsX1_bringBack (wsV RX1 22 RX1 yX1_placeAt wsX1_placeAt) := goodIn_app (goodIn_of _ (by decide +kernel)) ggX1_bringBack_X1_placeAt
set_option maxRecDepth 20000 in
theorem ggX1_bringBack_X6_copyFrom : GoodIn wsX1_bringBack wsX6_copyFrom := goodIn_r _ [17, 18, 19, 20, 21, 22, 23, 24, 25, 26, 27, 28, 29, 30, 31, 32, 33, 34, 35, 36, 37, 38, 39, 40, 41, 42, 43, 44, 45, 46, 47, 48, 49, 50, 51, 52, 53, 54, 55, 56, 57, 58, 59, 60, 61, 62, 63, 64, 65, 69, 70, 71, 72, 73, 74, 75, 76, 77, 78, 79, 80, 81, 82, 83, 84, 85, 86] (by decide +kernel) (by decide +kernel)
set_option maxRecDepth 20000 in
theorem gX1_bringBack_X6_copyFrom : GoodIn wsX1_bringBack (wsV RX1 26 RX6 yX6_copyFrom wsX6_copyFrom) := goodIn_app (goodIn_of _ (by decide +kernel)) ggX1_bringBack_X6_copyFrom
theorem dX1_bringBack_0 : decode cX1_bringBack 0 = .ok (.aload_n 0, 1) := by decide +kernel
theorem dX1_bringBack_1 : decode cX1_bringBack 1 = .ok (.getfield 18, 3) := by decide +kernel
theorem dX1_bringBack_4 : decode cX1_bringBack 4 = .ok (.iconst 1, 1) := by decide +kernel
theorem dX1_bringBack_5 : decode cX1_bringBack 5 = .ok (.isub, 1) := by decide +kernel
theorem dX1_bringBack_6 : decode cX1_bringBack 6 = .ok (.iconst 5, 1) := by decide +kernel
theorem dX1_bringBack_7 : decode cX1_bringBack 7 = .ok (.invokestatic 39, 3) := by decide +kernel
theorem dX1_bringBack_10 : decode cX1_bringBack 10 = .ok (.istore_n 2, 1) := by decide +kernel
theorem dX1_bringBack_11 : decode cX1_bringBack 11 = .ok (.aload_n 0, 1) := by decide +kernel
theorem dX1_bringBack_12 : decode cX1_bringBack 12 = .ok (.iload_n 2, 1) := by decide +kernel
theorem dX1_bringBack_13 : decode cX1_bringBack 13 = .ok (.invokevirtual 22, 3) := by decide +kernel
theorem dX1_bringBack_16 : decode cX1_bringBack 16 = .ok (.astore_n 3, 1) := by decide +kernel
theorem dX1_bringBack_17 : decode cX1_bringBack 17 = .ok (.aload_n 3, 1) := by decide +kernel
theorem dX1_bringBack_18 : decode cX1_bringBack 18 = .ok (.ifnull 23, 3) := by decide +kernel
theorem dX1_bringBack_21 : decode cX1_bringBack 21 = .ok (.aload_n 1, 1) := by decide +kernel
theorem dX1_bringBack_22 : decode cX1_bringBack 22 = .ok (.aload_n 3, 1) := by decide +kernel
theorem dX1_bringBack_23 : decode cX1_bringBack 23 = .ok (.invokevirtual 26, 3) := by decide +kernel
theorem dX1_bringBack_26 : decode cX1_bringBack 26 = .ok (.aload_n 0, 1) := by decide +kernel
theorem dX1_bringBack_27 : decode cX1_bringBack 27 = .ok (.iload_n 2, 1) := by decide +kernel
theorem dX1_bringBack_28 : decode cX1_bringBack 28 = .ok (.putfield 18, 3) := by decide +kernel
theorem dX1_bringBack_31 : decode cX1_bringBack 31 = .ok (.aload_n 0, 1) := by decide +kernel
theorem dX1_bringBack_32 : decode cX1_bringBack 32 = .ok (.dup, 1) := by decide +kernel
theorem dX1_bringBack_33 : decode cX1_bringBack 33 = .ok (.getfield 30, 3) := by decide +kernel
theorem dX1_bringBack_36 : decode cX1_bringBack 36 = .ok (.iconst 1, 1) := by decide +kernel
theorem dX1_bringBack_37 : decode cX1_bringBack 37 = .ok (.isub, 1) := by decide +kernel
theorem dX1_bringBack_38 : decode cX1_bringBack 38 = .ok (.putfield 30, 3) := by decide +kernel
theorem dX1_bringBack_41 : decode cX1_bringBack 41 = .ok (.return_, 1) := by decide +kernel
theorem dX1_placeAt_0 : decode cX1_placeAt 0 = .ok (.iload_n 1, 1) := by decide +kernel
theorem dX1_placeAt_1 : decode cX1_placeAt 1 = .ok (.ifCond .lt 21, 3) := by decide +kernel
theorem dX1_placeAt_4 : decode cX1_placeAt 4 = .ok (.iload_n 1, 1) := by decide +kernel
theorem dX1_placeAt_5 : decode cX1_placeAt 5 = .ok (.aload_n 0, 1) := by decide +kernel
theorem dX1_placeAt_6 : decode cX1_placeAt 6 = .ok (.getfield 11, 3) := by decide +kernel
theorem dX1_placeAt_9 : decode cX1_placeAt 9 = .ok (.arraylength, 1) := by decide +kernel
theorem dX1_placeAt_10 : decode cX1_placeAt 10 = .ok (.if_icmp .ge 12, 3) := by decide +kernel
theorem dX1_placeAt_13 : decode cX1_placeAt 13 = .ok (.aload_n 0, 1) := by decide +kernel
theorem dX1_placeAt_14 : decode cX1_placeAt 14 = .ok (.getfield 11, 3) := by decide +kernel
theorem dX1_placeAt_17 : decode cX1_placeAt 17 = .ok (.iload_n 1, 1) := by decide +kernel
theorem dX1_placeAt_18 : decode cX1_placeAt 18 = .ok (.aaload, 1) := by decide +kernel
theorem dX1_placeAt_19 : decode cX1_placeAt 19 = .ok (.goto 4, 3) := by decide +kernel
theorem dX1_placeAt_22 : decode cX1_placeAt 22 = .ok (.aconst_null, 1) := by decide +kernel
theorem dX1_placeAt_23 : decode cX1_placeAt 23 = .ok (.areturn, 1) := by decide +kernel
set_option maxRecDepth 20000 in
theorem ggX2_init_X7_init : GoodIn wsX2_init wsX7_init := goodIn_r _ [10, 11, 2, 3, 12, 13, 14, 15, 16, 17, 18, 19, 20] (by decide +kernel) (by decide +kernel)
set_option maxRecDepth 20000 in
theorem gX2_init_X7_init : GoodIn wsX2_init (wsX7_init) := ggX2_init_X7_init
theorem dX2_init_0 : decode cX2_init 0 = .ok (.aload_n 0, 1) := by decide +kernel
theorem dX2_init_1 : decode cX2_init 1 = .ok (.invokespecial 3, 3) := by decide +kernel
theorem dX2_init_4 : decode cX2_init 4 = .ok (.aload_n 0, 1) := by decide +kernel
theorem dX2_init_5 : decode cX2_init 5 = .ok (.new 9, 3) := by decide +kernel
theorem dX2_init_8 : decode cX2_init 8 = .ok (.dup, 1) := by decide +kernel
theorem dX2_init_9 : decode cX2_init 9 = .ok (.bipush 32, 2) := by decide +kernel
theorem dX2_init_11 : decode cX2_init 11 = .ok (.iconst 5, 1) := by decide +kernel
theorem dX2_init_12 : decode cX2_init 12 = .ok (.invokespecial 11, 3) := by decide +kernel
theorem dX2_init_15 : decode cX2_init 15 = .ok (.putfield 14, 3) := by decide +kernel
theorem dX2_init_18 : decode cX2_init 18 = .ok (.return_, 1) := by decide +kernel
set_option maxRecDepth 20000 in
theorem ggX2_copyFrom_X7_copyFrom : GoodIn wsX2_copyFrom wsX7_copyFrom := goodIn_r _ [8, 9, 10, 11, 12, 13, 14, 15, 16, 17, 21, 22] (by decide +kernel) (by decide +kernel)
set_option maxRecDepth 20000 in
theorem gX2_copyFrom_X7_copyFrom : GoodIn wsX2_copyFrom (wsV RX2 20 RX7 yX7_copyFrom wsX7_copyFrom) := goodIn_app (goodIn_of _ (by decide +kernel)) ggX2_copyFrom_X7_copyFrom
theorem dX2_copyFrom_0 : decode cX2_copyFrom 0 = .ok (.aload_n 0, 1) := by decide +kernel
theorem dX2_copyFrom_1 : decode cX2_copyFrom 1 = .ok (.getfield 14, 3) := by decide +kernel
theorem dX2_copyFrom_4 : decode cX2_copyFrom 4 = .ok (.aload_n 1, 1) := by decide +kernel
theorem dX2_copyFrom_5 : decode cX2_copyFrom 5 = .ok (.getfield 14, 3) := by decide +kernel
theorem dX2_copyFrom_8 : decode cX2_copyFrom 8 = .ok (.invokevirtual 20, 3) := by decide +kernel
theorem dX2_copyFrom_11 : decode cX2_copyFrom 11 = .ok (.aload_n 0, 1) := by decide +kernel
theorem dX2_copyFrom_12 : decode cX2_copyFrom 12 = .ok (.aload_n 1, 1) := by decide +kernel
theorem dX2_copyFrom_13 : decode cX2_copyFrom 13 = .ok (.getfield 24, 3) := by decide +kernel
theorem dX2_copyFrom_16 : decode cX2_copyFrom 16 = .ok (.putfield 24, 3) := by decide +kernel
theorem dX2_copyFrom_19 : decode cX2_copyFrom 19 = .ok (.aload_n 0, 1) := by decide +kernel
theorem dX2_copyFrom_20 : decode cX2_copyFrom 20 = .ok (.aload_n 1, 1) := by decide +kernel
theorem dX2_copyFrom_21 : decode cX2_copyFrom 21 = .ok (.getfield 28, 3) := by decide +kernel
theorem dX2_copyFrom_24 : decode cX2_copyFrom 24 = .ok (.putfield 28, 3) := by decide +kernel
theorem dX2_copyFrom_27 : decode cX2_copyFrom 27 = .ok (.return_, 1) := by decide +kernel
set_option maxRecDepth 20000 in
theorem ggX2_add_X7_put : GoodIn wsX2_add wsX7_put := goodIn_r _ [15, 16, 17, 33, 34] (by decide +kernel) (by decide +kernel)
set_option maxRecDepth 20000 in
theorem gX2_add_X7_put : GoodIn wsX2_add (wsV RX2 31 RX7 yX7_put wsX7_put) := goodIn_app (goodIn_of _ (by decide +kernel)) ggX2_add_X7_put
set_option maxRecDepth 20000 in
theorem ggX2_add_X0_error : GoodIn wsX2_add wsX0_error := goodIn_r _ [22, 23, 24, 28, 29, 30, 31, 32] (by decide +kernel) (by decide +kernel)
set_option maxRecDepth 20000 in
theorem gX2_add_X0_error : GoodIn wsX2_add (wsV RX2 46 RX0 yX0_error wsX0_error) := goodIn_app (goodIn_of _ (by decide +kernel)) ggX2_add_X0_error
theorem dX2_add_0 : decode cX2_add 0 = .ok (.aload_n 0, 1) := by decide +kernel
theorem dX2_add_1 : decode cX2_add 1 = .ok (.getfield 14, 3) := by decide +kernel
theorem dX2_add_4 : decode cX2_add 4 = .ok (.aload_n 0, 1) := by decide +kernel
theorem dX2_add_5 : decode cX2_add 5 = .ok (.getfield 24, 3) := by decide +kernel
theorem dX2_add_8 : decode cX2_add 8 = .ok (.iconst 0, 1) := by decide +kernel
theorem dX2_add_9 : decode cX2_add 9 = .ok (.iload_n 1, 1) := by decide +kernel
theorem dX2_add_10 : decode cX2_add 10 = .ok (.invokevirtual 31, 3) := by decide +kernel
theorem dX2_add_13 : decode cX2_add 13 = .ok (.aload_n 0, 1) := by decide +kernel
theorem dX2_add_14 : decode cX2_add 14 = .ok (.getfield 14, 3) := by decide +kernel
theorem dX2_add_17 : decode cX2_add 17 = .ok (.aload_n 0, 1) := by decide +kernel
theorem dX2_add_18 : decode cX2_add 18 = .ok (.getfield 24, 3) := by decide +kernel
theorem dX2_add_21 : decode cX2_add 21 = .ok (.iconst 1, 1) := by decide +kernel
theorem dX2_add_22 : decode cX2_add 22 = .ok (.aload_n 2, 1) := by decide +kernel
theorem dX2_add_23 : decode cX2_add 23 = .ok (.getfield 35, 3) := by decide +kernel
theorem dX2_add_26 : decode cX2_add 26 = .ok (.iconst 1, 1) := by decide +kernel
theorem dX2_add_27 : decode cX2_add 27 = .ok (.isub, 1) := by decide +kernel
theorem dX2_add_28 : decode cX2_add 28 = .ok (.invokevirtual 31, 3) := by decide +kernel
theorem dX2_add_31 : decode cX2_add 31 = .ok (.aload_n 0, 1) := by decide +kernel
theorem dX2_add_32 : decode cX2_add 32 = .ok (.getfield 14, 3) := by decide +kernel
theorem dX2_add_35 : decode cX2_add 35 = .ok (.aload_n 0, 1) := by decide +kernel
theorem dX2_add_36 : decode cX2_add 36 = .ok (.getfield 24, 3) := by decide +kernel
theorem dX2_add_39 : decode cX2_add 39 = .ok (.iconst 2, 1) := by decide +kernel
theorem dX2_add_40 : decode cX2_add 40 = .ok (.aload_n 2, 1) := by decide +kernel
theorem dX2_add_41 : decode cX2_add 41 = .ok (.getfield 40, 3) := by decide +kernel
theorem dX2_add_44 : decode cX2_add 44 = .ok (.invokevirtual 31, 3) := by decide +kernel
theorem dX2_add_47 : decode cX2_add 47 = .ok (.aload_n 0, 1) := by decide +kernel
theorem dX2_add_48 : decode cX2_add 48 = .ok (.getfield 14, 3) := by decide +kernel
theorem dX2_add_51 : decode cX2_add 51 = .ok (.aload_n 0, 1) := by decide +kernel
theorem dX2_add_52 : decode cX2_add 52 = .ok (.getfield 24, 3) := by decide +kernel
theorem dX2_add_55 : decode cX2_add 55 = .ok (.iconst 3, 1) := by decide +kernel
theorem dX2_add_56 : decode cX2_add 56 = .ok (.aload_n 2, 1) := by decide +kernel
theorem dX2_add_57 : decode cX2_add 57 = .ok (.getfield 43, 3) := by decide +kernel
theorem dX2_add_60 : decode cX2_add 60 = .ok (.invokevirtual 31, 3) := by decide +kernel
theorem dX2_add_63 : decode cX2_add 63 = .ok (.aload_n 0, 1) := by decide +kernel
theorem dX2_add_64 : decode cX2_add 64 = .ok (.getfield 14, 3) := by decide +kernel
theorem dX2_add_67 : decode cX2_add 67 = .ok (.aload_n 0, 1) := by decide +kernel
theorem dX2_add_68 : decode cX2_add 68 = .ok (.getfield 24, 3) := by decide +kernel
theorem dX2_add_71 : decode cX2_add 71 = .ok (.iconst 4, 1) := by decide +kernel
theorem dX2_add_72 : decode cX2_add 72 = .ok (.aload_n 2, 1) := by decide +kernel
theorem dX2_add_73 : decode cX2_add 73 = .ok (.invokevirtual 46, 3) := by decide +kernel
theorem dX2_add_76 : decode cX2_add 76 = .ok (.invokevirtual 31, 3) := by decide +kernel
theorem dX2_add_79 : decode cX2_add 79 = .ok (.aload_n 0, 1) := by decide +kernel
theorem dX2_add_80 : decode cX2_add 80 = .ok (.aload_n 0, 1) := by decide +kernel
theorem dX2_add_81 : decode cX2_add 81 = .ok (.getfield 24, 3) := by decide +kernel
theorem dX2_add_84 : decode cX2_add 84 = .ok (.iconst 1, 1) := by decide +kernel
theorem dX2_add_85 : decode cX2_add 85 = .ok (.iadd, 1) := by decide +kernel
theorem dX2_add_86 : decode cX2_add 86 = .ok (.bipush 32, 2) := by decide +kernel
theorem dX2_add_88 : decode cX2_add 88 = .ok (.irem, 1) := by decide +kernel
theorem dX2_add_89 : decode cX2_add 89 = .ok (.putfield 24, 3) := by decide +kernel
theorem dX2_add_92 : decode cX2_add 92 = .ok (.aload_n 0, 1) := by decide +kernel
theorem dX2_add_93 : decode cX2_add 93 = .ok (.aload_n 0, 1) := by decide +kernel
theorem dX2_add_94 : decode cX2_add 94 = .ok (.getfield 28, 3) := by decide +kernel
theorem dX2_add_97 : decode cX2_add 97 = .ok (.iconst 1, 1) := by decide +kernel
theorem dX2_add_98 : decode cX2_add 98 = .ok (.iadd, 1) := by decide +kernel
theorem dX2_add_99 : decode cX2_add 99 = .ok (.bipush 32, 2) := by decide +kernel
theorem dX2_add_101 : decode cX2_add 101 = .ok (.invokestatic 50, 3) := by decide +kernel
theorem dX2_add_104 : decode cX2_add 104 = .ok (.putfield 28, 3) := by decide +kernel
theorem dX2_add_107 : decode cX2_add 107 = .ok (.return_, 1) := by decide +kernel
set_option maxRecDepth 20000 in
theorem ggX2_part_J9_floorMod_7cf53 : GoodIn wsX2_part wsJ9_floorMod_7cf53 := goodIn_r _ [6] (by decide +kernel) (by decide +kernel)
set_option maxRecDepth 20000 in
theorem gX2_part_J9_floorMod_7cf53 : GoodIn wsX2_part (va_wsS RX2 56 yJ9_floorMod_7cf53 wsJ9_floorMod_7cf53) := goodIn_app (goodIn_of _ (by decide +kernel)) ggX2_part_J9_floorMod_7cf53
set_option maxRecDepth 20000 in
theorem ggX2_part_X7_at : GoodIn wsX2_part wsX7_at := goodIn_r _ [11, 12, 13, 17, 18] (by decide +kernel) (by decide +kernel)
set_option maxRecDepth 20000 in
theorem gX2_part_X7_at : GoodIn wsX2_part (wsV RX2 59 RX7 yX7_at wsX7_at) := goodIn_app (goodIn_of _ (by decide +kernel)) ggX2_part_X7_at
theorem dX2_part_0 : decode cX2_part 0 = .ok (.aload_n 0, 1) := by decide +kernel
theorem dX2_part_1 : decode cX2_part 1 = .ok (.getfield 14, 3) := by decide +kernel
theorem dX2_part_4 : decode cX2_part 4 = .ok (.aload_n 0, 1) := by decide +kernel
theorem dX2_part_5 : decode cX2_part 5 = .ok (.getfield 24, 3) := by decide +kernel
theorem dX2_part_8 : decode cX2_part 8 = .ok (.iconst 1, 1) := by decide +kernel
theorem dX2_part_9 : decode cX2_part 9 = .ok (.isub, 1) := by decide +kernel
theorem dX2_part_10 : decode cX2_part 10 = .ok (.iload_n 1, 1) := by decide +kernel
theorem dX2_part_11 : decode cX2_part 11 = .ok (.isub, 1) := by decide +kernel
theorem dX2_part_12 : decode cX2_part 12 = .ok (.bipush 32, 2) := by decide +kernel
theorem dX2_part_14 : decode cX2_part 14 = .ok (.invokestatic 56, 3) := by decide +kernel
theorem dX2_part_17 : decode cX2_part 17 = .ok (.iload_n 2, 1) := by decide +kernel
theorem dX2_part_18 : decode cX2_part 18 = .ok (.invokevirtual 59, 3) := by decide +kernel
theorem dX2_part_21 : decode cX2_part 21 = .ok (.ireturn, 1) := by decide +kernel
set_option maxRecDepth 20000 in
theorem ggX3_init_X7_init : GoodIn wsX3_init wsX7_init := goodIn_r _ [12, 13, 2, 3, 14, 15, 16, 17, 18, 19, 20, 25, 26] (by decide +kernel) (by decide +kernel)
set_option maxRecDepth 20000 in
theorem gX3_init_X7_init : GoodIn wsX3_init (wsX7_init) := ggX3_init_X7_init
set_option maxRecDepth 20000 in
theorem ggX3_init_X7_put : GoodIn wsX3_init wsX7_put := goodIn_r _ [24, 18, 20, 25, 26] (by decide +kernel) (by decide +kernel)
set_option maxRecDepth 20000 in
theorem gX3_init_X7_put : GoodIn wsX3_init (wsV RX3 26 RX7 yX7_put wsX7_put) := goodIn_app (goodIn_of _ (by decide +kernel)) ggX3_init_X7_put
theorem dX3_init_0 : decode cX3_init 0 = .ok (.aload_n 0, 1) := by decide +kernel
theorem dX3_init_1 : decode cX3_init 1 = .ok (.invokespecial 3, 3) := by decide +kernel
theorem dX3_init_4 : decode cX3_init 4 = .ok (.aload_n 0, 1) := by decide +kernel
theorem dX3_init_5 : decode cX3_init 5 = .ok (.new 9, 3) := by decide +kernel
theorem dX3_init_8 : decode cX3_init 8 = .ok (.dup, 1) := by decide +kernel
theorem dX3_init_9 : decode cX3_init 9 = .ok (.bipush 8, 2) := by decide +kernel
theorem dX3_init_11 : decode cX3_init 11 = .ok (.iconst 5, 1) := by decide +kernel
theorem dX3_init_12 : decode cX3_init 12 = .ok (.invokespecial 11, 3) := by decide +kernel
theorem dX3_init_15 : decode cX3_init 15 = .ok (.putfield 14, 3) := by decide +kernel
theorem dX3_init_18 : decode cX3_init 18 = .ok (.aload_n 0, 1) := by decide +kernel
theorem dX3_init_19 : decode cX3_init 19 = .ok (.new 9, 3) := by decide +kernel
theorem dX3_init_22 : decode cX3_init 22 = .ok (.dup, 1) := by decide +kernel
theorem dX3_init_23 : decode cX3_init 23 = .ok (.bipush 16, 2) := by decide +kernel
theorem dX3_init_25 : decode cX3_init 25 = .ok (.iconst 2, 1) := by decide +kernel
theorem dX3_init_26 : decode cX3_init 26 = .ok (.invokespecial 11, 3) := by decide +kernel
theorem dX3_init_29 : decode cX3_init 29 = .ok (.putfield 20, 3) := by decide +kernel
theorem dX3_init_32 : decode cX3_init 32 = .ok (.aload_n 0, 1) := by decide +kernel
theorem dX3_init_33 : decode cX3_init 33 = .ok (.new 9, 3) := by decide +kernel
theorem dX3_init_36 : decode cX3_init 36 = .ok (.dup, 1) := by decide +kernel
theorem dX3_init_37 : decode cX3_init 37 = .ok (.iconst 3, 1) := by decide +kernel
theorem dX3_init_38 : decode cX3_init 38 = .ok (.iconst 1, 1) := by decide +kernel
theorem dX3_init_39 : decode cX3_init 39 = .ok (.invokespecial 11, 3) := by decide +kernel
theorem dX3_init_42 : decode cX3_init 42 = .ok (.putfield 23, 3) := by decide +kernel
theorem dX3_init_45 : decode cX3_init 45 = .ok (.aload_n 0, 1) := by decide +kernel
theorem dX3_init_46 : decode cX3_init 46 = .ok (.getfield 23, 3) := by decide +kernel
theorem dX3_init_49 : decode cX3_init 49 = .ok (.iconst 0, 1) := by decide +kernel
theorem dX3_init_50 : decode cX3_init 50 = .ok (.iconst 0, 1) := by decide +kernel
theorem dX3_init_51 : decode cX3_init 51 = .ok (.sipush 2048, 3) := by decide +kernel
theorem dX3_init_54 : decode cX3_init 54 = .ok (.invokevirtual 26, 3) := by decide +kernel
theorem dX3_init_57 : decode cX3_init 57 = .ok (.aload_n 0, 1) := by decide +kernel
theorem dX3_init_58 : decode cX3_init 58 = .ok (.getfield 23, 3) := by decide +kernel
theorem dX3_init_61 : decode cX3_init 61 = .ok (.iconst 1, 1) := by decide +kernel
theorem dX3_init_62 : decode cX3_init 62 = .ok (.iconst 0, 1) := by decide +kernel
theorem dX3_init_63 : decode cX3_init 63 = .ok (.sipush 1000, 3) := by decide +kernel
theorem dX3_init_66 : decode cX3_init 66 = .ok (.invokevirtual 26, 3) := by decide +kernel
theorem dX3_init_69 : decode cX3_init 69 = .ok (.return_, 1) := by decide +kernel
set_option maxRecDepth 20000 in
theorem ggX3_copyFrom_X7_copyFrom : GoodIn wsX3_copyFrom wsX7_copyFrom := goodIn_r _ [9, 10, 11, 12, 13, 14, 15, 16, 17, 18, 23, 24] (by decide +kernel) (by decide +kernel)
set_option maxRecDepth 20000 in
theorem gX3_copyFrom_X7_copyFrom : GoodIn wsX3_copyFrom (wsV RX3 30 RX7 yX7_copyFrom wsX7_copyFrom) := goodIn_app (goodIn_of _ (by decide +kernel)) ggX3_copyFrom_X7_copyFrom
theorem dX3_copyFrom_0 : decode cX3_copyFrom 0 = .ok (.aload_n 0, 1) := by decide +kernel
theorem dX3_copyFrom_1 : decode cX3_copyFrom 1 = .ok (.getfield 14, 3) := by decide +kernel
theorem dX3_copyFrom_4 : decode cX3_copyFrom 4 = .ok (.aload_n 1, 1) := by decide +kernel
theorem dX3_copyFrom_5 : decode cX3_copyFrom 5 = .ok (.getfield 14, 3) := by decide +kernel
theorem dX3_copyFrom_8 : decode cX3_copyFrom 8 = .ok (.invokevirtual 30, 3) := by decide +kernel
theorem dX3_copyFrom_11 : decode cX3_copyFrom 11 = .ok (.aload_n 0, 1) := by decide +kernel
theorem dX3_copyFrom_12 : decode cX3_copyFrom 12 = .ok (.getfield 20, 3) := by decide +kernel
theorem dX3_copyFrom_15 : decode cX3_copyFrom 15 = .ok (.aload_n 1, 1) := by decide +kernel
theorem dX3_copyFrom_16 : decode cX3_copyFrom 16 = .ok (.getfield 20, 3) := by decide +kernel
theorem dX3_copyFrom_19 : decode cX3_copyFrom 19 = .ok (.invokevirtual 30, 3) := by decide +kernel
theorem dX3_copyFrom_22 : decode cX3_copyFrom 22 = .ok (.aload_n 0, 1) := by decide +kernel
theorem dX3_copyFrom_23 : decode cX3_copyFrom 23 = .ok (.getfield 23, 3) := by decide +kernel
theorem dX3_copyFrom_26 : decode cX3_copyFrom 26 = .ok (.aload_n 1, 1) := by decide +kernel
theorem dX3_copyFrom_27 : decode cX3_copyFrom 27 = .ok (.getfield 23, 3) := by decide +kernel
theorem dX3_copyFrom_30 : decode cX3_copyFrom 30 = .ok (.invokevirtual 30, 3) := by decide +kernel
theorem dX3_copyFrom_33 : decode cX3_copyFrom 33 = .ok (.aload_n 0, 1) := by decide +kernel
theorem dX3_copyFrom_34 : decode cX3_copyFrom 34 = .ok (.aload_n 1, 1) := by decide +kernel
theorem dX3_copyFrom_35 : decode cX3_copyFrom 35 = .ok (.getfield 34, 3) := by decide +kernel
theorem dX3_copyFrom_38 : decode cX3_copyFrom 38 = .ok (.putfield 34, 3) := by decide +kernel
theorem dX3_copyFrom_41 : decode cX3_copyFrom 41 = .ok (.return_, 1) := by decide +kernel
set_option maxRecDepth 20000 in
theorem ggX3_setting_X7_at : GoodIn wsX3_setting wsX7_at := goodIn_r _ [6, 7, 8, 13, 14] (by decide +kernel) (by decide +kernel)
set_option maxRecDepth 20000 in
theorem gX3_setting_X7_at : GoodIn wsX3_setting (wsV RX3 38 RX7 yX7_at wsX7_at) := goodIn_app (goodIn_of _ (by decide +kernel)) ggX3_setting_X7_at
theorem dX3_setting_0 : decode cX3_setting 0 = .ok (.aload_n 0, 1) := by decide +kernel
theorem dX3_setting_1 : decode cX3_setting 1 = .ok (.getfield 23, 3) := by decide +kernel
theorem dX3_setting_4 : decode cX3_setting 4 = .ok (.iload_n 1, 1) := by decide +kernel
theorem dX3_setting_5 : decode cX3_setting 5 = .ok (.iconst 0, 1) := by decide +kernel
theorem dX3_setting_6 : decode cX3_setting 6 = .ok (.invokevirtual 38, 3) := by decide +kernel
theorem dX3_setting_9 : decode cX3_setting 9 = .ok (.ireturn, 1) := by decide +kernel
set_option maxRecDepth 20000 in
theorem ggX3_putSource_X7_put : GoodIn wsX3_putSource wsX7_put := goodIn_r _ [6, 7, 8, 13, 14] (by decide +kernel) (by decide +kernel)
set_option maxRecDepth 20000 in
theorem gX3_putSource_X7_put : GoodIn wsX3_putSource (wsV RX3 26 RX7 yX7_put wsX7_put) := goodIn_app (goodIn_of _ (by decide +kernel)) ggX3_putSource_X7_put
theorem dX3_putSource_0 : decode cX3_putSource 0 = .ok (.aload_n 0, 1) := by decide +kernel
theorem dX3_putSource_1 : decode cX3_putSource 1 = .ok (.getfield 14, 3) := by decide +kernel
theorem dX3_putSource_4 : decode cX3_putSource 4 = .ok (.iload_n 1, 1) := by decide +kernel
theorem dX3_putSource_5 : decode cX3_putSource 5 = .ok (.iconst 0, 1) := by decide +kernel
theorem dX3_putSource_6 : decode cX3_putSource 6 = .ok (.iload_n 2, 1) := by decide +kernel
theorem dX3_putSource_7 : decode cX3_putSource 7 = .ok (.invokevirtual 26, 3) := by decide +kernel
theorem dX3_putSource_10 : decode cX3_putSource 10 = .ok (.aload_n 0, 1) := by decide +kernel
theorem dX3_putSource_11 : decode cX3_putSource 11 = .ok (.getfield 14, 3) := by decide +kernel
theorem dX3_putSource_14 : decode cX3_putSource 14 = .ok (.iload_n 1, 1) := by decide +kernel
theorem dX3_putSource_15 : decode cX3_putSource 15 = .ok (.iconst 1, 1) := by decide +kernel
theorem dX3_putSource_16 : decode cX3_putSource 16 = .ok (.iload_n 3, 1) := by decide +kernel
theorem dX3_putSource_17 : decode cX3_putSource 17 = .ok (.invokevirtual 26, 3) := by decide +kernel
theorem dX3_putSource_20 : decode cX3_putSource 20 = .ok (.aload_n 0, 1) := by decide +kernel
theorem dX3_putSource_21 : decode cX3_putSource 21 = .ok (.getfield 14, 3) := by decide +kernel
theorem dX3_putSource_24 : decode cX3_putSource 24 = .ok (.iload_n 1, 1) := by decide +kernel
theorem dX3_putSource_25 : decode cX3_putSource 25 = .ok (.iconst 2, 1) := by decide +kernel
theorem dX3_putSource_26 : decode cX3_putSource 26 = .ok (.iload 4, 2) := by decide +kernel
theorem dX3_putSource_28 : decode cX3_putSource 28 = .ok (.invokevirtual 26, 3) := by decide +kernel
theorem dX3_putSource_31 : decode cX3_putSource 31 = .ok (.aload_n 0, 1) := by decide +kernel
theorem dX3_putSource_32 : decode cX3_putSource 32 = .ok (.getfield 14, 3) := by decide +kernel
theorem dX3_putSource_35 : decode cX3_putSource 35 = .ok (.iload_n 1, 1) := by decide +kernel
theorem dX3_putSource_36 : decode cX3_putSource 36 = .ok (.iconst 3, 1) := by decide +kernel
theorem dX3_putSource_37 : decode cX3_putSource 37 = .ok (.iload 5, 2) := by decide +kernel
theorem dX3_putSource_39 : decode cX3_putSource 39 = .ok (.invokevirtual 26, 3) := by decide +kernel
theorem dX3_putSource_42 : decode cX3_putSource 42 = .ok (.return_, 1) := by decide +kernel
set_option maxRecDepth 20000 in
theorem ggX3_sourcesOf_X7_at : GoodIn wsX3_sourcesOf wsX7_at := goodIn_r _ [6, 7, 8, 13, 14] (by decide +kernel) (by decide +kernel)
set_option maxRecDepth 20000 in
theorem gX3_sourcesOf_X7_at : GoodIn wsX3_sourcesOf (wsV RX3 38 RX7 yX7_at wsX7_at) := goodIn_app (goodIn_of _ (by decide +kernel)) ggX3_sourcesOf_X7_at
theorem dX3_sourcesOf_0 : decode cX3_sourcesOf 0 = .ok (.iconst 0, 1) := by decide +kernel
theorem dX3_sourcesOf_1 : decode cX3_sourcesOf 1 = .ok (.istore_n 2, 1) := by decide +kernel
theorem dX3_sourcesOf_2 : decode cX3_sourcesOf 2 = .ok (.iconst 0, 1) := by decide +kernel
theorem dX3_sourcesOf_3 : decode cX3_sourcesOf 3 = .ok (.istore_n 3, 1) := by decide +kernel
theorem dX3_sourcesOf_4 : decode cX3_sourcesOf 4 = .ok (.iload_n 3, 1) := by decide +kernel
theorem dX3_sourcesOf_5 : decode cX3_sourcesOf 5 = .ok (.bipush 8, 2) := by decide +kernel
theorem dX3_sourcesOf_7 : decode cX3_sourcesOf 7 = .ok (.if_icmp .ge 30, 3) := by decide +kernel
theorem dX3_sourcesOf_10 : decode cX3_sourcesOf 10 = .ok (.iload_n 2, 1) := by decide +kernel
theorem dX3_sourcesOf_11 : decode cX3_sourcesOf 11 = .ok (.aload_n 0, 1) := by decide +kernel
theorem dX3_sourcesOf_12 : decode cX3_sourcesOf 12 = .ok (.getfield 14, 3) := by decide +kernel
theorem dX3_sourcesOf_15 : decode cX3_sourcesOf 15 = .ok (.iload_n 3, 1) := by decide +kernel
theorem dX3_sourcesOf_16 : decode cX3_sourcesOf 16 = .ok (.iconst 0, 1) := by decide +kernel
theorem dX3_sourcesOf_17 : decode cX3_sourcesOf 17 = .ok (.invokevirtual 38, 3) := by decide +kernel
theorem dX3_sourcesOf_20 : decode cX3_sourcesOf 20 = .ok (.iload_n 1, 1) := by decide +kernel
theorem dX3_sourcesOf_21 : decode cX3_sourcesOf 21 = .ok (.if_icmp .ne 7, 3) := by decide +kernel
theorem dX3_sourcesOf_24 : decode cX3_sourcesOf 24 = .ok (.iconst 1, 1) := by decide +kernel
theorem dX3_sourcesOf_25 : decode cX3_sourcesOf 25 = .ok (.goto 4, 3) := by decide +kernel
theorem dX3_sourcesOf_28 : decode cX3_sourcesOf 28 = .ok (.iconst 0, 1) := by decide +kernel
theorem dX3_sourcesOf_29 : decode cX3_sourcesOf 29 = .ok (.iadd, 1) := by decide +kernel
theorem dX3_sourcesOf_30 : decode cX3_sourcesOf 30 = .ok (.istore_n 2, 1) := by decide +kernel
theorem dX3_sourcesOf_31 : decode cX3_sourcesOf 31 = .ok (.iinc 3 1, 3) := by decide +kernel
theorem dX3_sourcesOf_34 : decode cX3_sourcesOf 34 = .ok (.goto (-30), 3) := by decide +kernel
theorem dX3_sourcesOf_37 : decode cX3_sourcesOf 37 = .ok (.iload_n 2, 1) := by decide +kernel
theorem dX3_sourcesOf_38 : decode cX3_sourcesOf 38 = .ok (.ireturn, 1) := by decide +kernel
set_option maxRecDepth 20000 in
theorem ggX3_entriesOf_X7_at : GoodIn wsX3_entriesOf wsX7_at := goodIn_r _ [7, 8, 9, 14, 15] (by decide +kernel) (by decide +kernel)
set_option maxRecDepth 20000 in
theorem gX3_entriesOf_X7_at : GoodIn wsX3_entriesOf (wsV RX3 38 RX7 yX7_at wsX7_at) := goodIn_app (goodIn_of _ (by decide +kernel)) ggX3_entriesOf_X7_at
theorem dX3_entriesOf_0 : decode cX3_entriesOf 0 = .ok (.iconst 0, 1) := by decide +kernel
theorem dX3_entriesOf_1 : decode cX3_entriesOf 1 = .ok (.istore_n 2, 1) := by decide +kernel
theorem dX3_entriesOf_2 : decode cX3_entriesOf 2 = .ok (.iconst 0, 1) := by decide +kernel
theorem dX3_entriesOf_3 : decode cX3_entriesOf 3 = .ok (.istore_n 3, 1) := by decide +kernel
theorem dX3_entriesOf_4 : decode cX3_entriesOf 4 = .ok (.iload_n 3, 1) := by decide +kernel
theorem dX3_entriesOf_5 : decode cX3_entriesOf 5 = .ok (.aload_n 0, 1) := by decide +kernel
theorem dX3_entriesOf_6 : decode cX3_entriesOf 6 = .ok (.getfield 34, 3) := by decide +kernel
theorem dX3_entriesOf_9 : decode cX3_entriesOf 9 = .ok (.if_icmp .ge 30, 3) := by decide +kernel
theorem dX3_entriesOf_12 : decode cX3_entriesOf 12 = .ok (.iload_n 2, 1) := by decide +kernel
theorem dX3_entriesOf_13 : decode cX3_entriesOf 13 = .ok (.aload_n 0, 1) := by decide +kernel
theorem dX3_entriesOf_14 : decode cX3_entriesOf 14 = .ok (.getfield 20, 3) := by decide +kernel
theorem dX3_entriesOf_17 : decode cX3_entriesOf 17 = .ok (.iload_n 3, 1) := by decide +kernel
theorem dX3_entriesOf_18 : decode cX3_entriesOf 18 = .ok (.iconst 0, 1) := by decide +kernel
theorem dX3_entriesOf_19 : decode cX3_entriesOf 19 = .ok (.invokevirtual 38, 3) := by decide +kernel
theorem dX3_entriesOf_22 : decode cX3_entriesOf 22 = .ok (.iload_n 1, 1) := by decide +kernel
theorem dX3_entriesOf_23 : decode cX3_entriesOf 23 = .ok (.if_icmp .ne 7, 3) := by decide +kernel
theorem dX3_entriesOf_26 : decode cX3_entriesOf 26 = .ok (.iconst 1, 1) := by decide +kernel
theorem dX3_entriesOf_27 : decode cX3_entriesOf 27 = .ok (.goto 4, 3) := by decide +kernel
theorem dX3_entriesOf_30 : decode cX3_entriesOf 30 = .ok (.iconst 0, 1) := by decide +kernel
theorem dX3_entriesOf_31 : decode cX3_entriesOf 31 = .ok (.iadd, 1) := by decide +kernel
theorem dX3_entriesOf_32 : decode cX3_entriesOf 32 = .ok (.istore_n 2, 1) := by decide +kernel
theorem dX3_entriesOf_33 : decode cX3_entriesOf 33 = .ok (.iinc 3 1, 3) := by decide +kernel
theorem dX3_entriesOf_36 : decode cX3_entriesOf 36 = .ok (.goto (-32), 3) := by decide +kernel
theorem dX3_entriesOf_39 : decode cX3_entriesOf 39 = .ok (.iload_n 2, 1) := by decide +kernel
theorem dX3_entriesOf_40 : decode cX3_entriesOf 40 = .ok (.ireturn, 1) := by decide +kernel
set_option maxRecDepth 20000 in
theorem ggX3_insert_X7_copyRow : GoodIn wsX3_insert wsX7_copyRow := goodIn_r _ [7, 8, 9, 10, 11, 6, 12, 13, 14, 15, 16, 17, 23, 24] (by decide +kernel) (by decide +kernel)
set_option maxRecDepth 20000 in
theorem gX3_insert_X7_copyRow : GoodIn wsX3_insert (wsV RX3 42 RX7 yX7_copyRow wsX7_copyRow) := goodIn_app (goodIn_of _ (by decide +kernel)) ggX3_insert_X7_copyRow
set_option maxRecDepth 20000 in
theorem ggX3_insert_X7_put : GoodIn wsX3_insert wsX7_put := goodIn_r _ [17, 8, 13, 23, 24] (by decide +kernel) (by decide +kernel)
set_option maxRecDepth 20000 in
theorem gX3_insert_X7_put : GoodIn wsX3_insert (wsV RX3 26 RX7 yX7_put wsX7_put) := goodIn_app (goodIn_of _ (by decide +kernel)) ggX3_insert_X7_put
theorem dX3_insert_0 : decode cX3_insert 0 = .ok (.aload_n 0, 1) := by decide +kernel
theorem dX3_insert_1 : decode cX3_insert 1 = .ok (.getfield 34, 3) := by decide +kernel
theorem dX3_insert_4 : decode cX3_insert 4 = .ok (.istore 4, 2) := by decide +kernel
theorem dX3_insert_6 : decode cX3_insert 6 = .ok (.iload 4, 2) := by decide +kernel
theorem dX3_insert_8 : decode cX3_insert 8 = .ok (.iload_n 3, 1) := by decide +kernel
theorem dX3_insert_9 : decode cX3_insert 9 = .ok (.if_icmp .le 22, 3) := by decide +kernel
theorem dX3_insert_12 : decode cX3_insert 12 = .ok (.aload_n 0, 1) := by decide +kernel
theorem dX3_insert_13 : decode cX3_insert 13 = .ok (.getfield 20, 3) := by decide +kernel
theorem dX3_insert_16 : decode cX3_insert 16 = .ok (.iload 4, 2) := by decide +kernel
theorem dX3_insert_18 : decode cX3_insert 18 = .ok (.iconst 1, 1) := by decide +kernel
theorem dX3_insert_19 : decode cX3_insert 19 = .ok (.isub, 1) := by decide +kernel
theorem dX3_insert_20 : decode cX3_insert 20 = .ok (.iload 4, 2) := by decide +kernel
theorem dX3_insert_22 : decode cX3_insert 22 = .ok (.invokevirtual 42, 3) := by decide +kernel
theorem dX3_insert_25 : decode cX3_insert 25 = .ok (.iinc 4 (-1), 3) := by decide +kernel
theorem dX3_insert_28 : decode cX3_insert 28 = .ok (.goto (-22), 3) := by decide +kernel
theorem dX3_insert_31 : decode cX3_insert 31 = .ok (.aload_n 0, 1) := by decide +kernel
theorem dX3_insert_32 : decode cX3_insert 32 = .ok (.getfield 20, 3) := by decide +kernel
theorem dX3_insert_35 : decode cX3_insert 35 = .ok (.iload_n 3, 1) := by decide +kernel
theorem dX3_insert_36 : decode cX3_insert 36 = .ok (.iconst 0, 1) := by decide +kernel
theorem dX3_insert_37 : decode cX3_insert 37 = .ok (.iload_n 1, 1) := by decide +kernel
theorem dX3_insert_38 : decode cX3_insert 38 = .ok (.invokevirtual 26, 3) := by decide +kernel
theorem dX3_insert_41 : decode cX3_insert 41 = .ok (.aload_n 0, 1) := by decide +kernel
theorem dX3_insert_42 : decode cX3_insert 42 = .ok (.getfield 20, 3) := by decide +kernel
theorem dX3_insert_45 : decode cX3_insert 45 = .ok (.iload_n 3, 1) := by decide +kernel
theorem dX3_insert_46 : decode cX3_insert 46 = .ok (.iconst 1, 1) := by decide +kernel
theorem dX3_insert_47 : decode cX3_insert 47 = .ok (.iload_n 2, 1) := by decide +kernel
theorem dX3_insert_48 : decode cX3_insert 48 = .ok (.invokevirtual 26, 3) := by decide +kernel
theorem dX3_insert_51 : decode cX3_insert 51 = .ok (.aload_n 0, 1) := by decide +kernel
theorem dX3_insert_52 : decode cX3_insert 52 = .ok (.dup, 1) := by decide +kernel
theorem dX3_insert_53 : decode cX3_insert 53 = .ok (.getfield 34, 3) := by decide +kernel
theorem dX3_insert_56 : decode cX3_insert 56 = .ok (.iconst 1, 1) := by decide +kernel
theorem dX3_insert_57 : decode cX3_insert 57 = .ok (.iadd, 1) := by decide +kernel
theorem dX3_insert_58 : decode cX3_insert 58 = .ok (.putfield 34, 3) := by decide +kernel
theorem dX3_insert_61 : decode cX3_insert 61 = .ok (.return_, 1) := by decide +kernel
set_option maxRecDepth 20000 in
theorem ggX3_removeAt_X7_copyRow : GoodIn wsX3_removeAt wsX7_copyRow := goodIn_r _ [7, 8, 9, 10, 11, 6, 12, 13, 14, 15, 16, 17, 22, 23] (by decide +kernel) (by decide +kernel)
set_option maxRecDepth 20000 in
theorem gX3_removeAt_X7_copyRow : GoodIn wsX3_removeAt (wsV RX3 42 RX7 yX7_copyRow wsX7_copyRow) := goodIn_app (goodIn_of _ (by decide +kernel)) ggX3_removeAt_X7_copyRow
theorem dX3_removeAt_0 : decode cX3_removeAt 0 = .ok (.iload_n 1, 1) := by decide +kernel
theorem dX3_removeAt_1 : decode cX3_removeAt 1 = .ok (.istore_n 2, 1) := by decide +kernel
theorem dX3_removeAt_2 : decode cX3_removeAt 2 = .ok (.iload_n 2, 1) := by decide +kernel
theorem dX3_removeAt_3 : decode cX3_removeAt 3 = .ok (.aload_n 0, 1) := by decide +kernel
theorem dX3_removeAt_4 : decode cX3_removeAt 4 = .ok (.getfield 34, 3) := by decide +kernel
theorem dX3_removeAt_7 : decode cX3_removeAt 7 = .ok (.iconst 1, 1) := by decide +kernel
theorem dX3_removeAt_8 : decode cX3_removeAt 8 = .ok (.isub, 1) := by decide +kernel
theorem dX3_removeAt_9 : decode cX3_removeAt 9 = .ok (.if_icmp .ge 20, 3) := by decide +kernel
theorem dX3_removeAt_12 : decode cX3_removeAt 12 = .ok (.aload_n 0, 1) := by decide +kernel
theorem dX3_removeAt_13 : decode cX3_removeAt 13 = .ok (.getfield 20, 3) := by decide +kernel
theorem dX3_removeAt_16 : decode cX3_removeAt 16 = .ok (.iload_n 2, 1) := by decide +kernel
theorem dX3_removeAt_17 : decode cX3_removeAt 17 = .ok (.iconst 1, 1) := by decide +kernel
theorem dX3_removeAt_18 : decode cX3_removeAt 18 = .ok (.iadd, 1) := by decide +kernel
theorem dX3_removeAt_19 : decode cX3_removeAt 19 = .ok (.iload_n 2, 1) := by decide +kernel
theorem dX3_removeAt_20 : decode cX3_removeAt 20 = .ok (.invokevirtual 42, 3) := by decide +kernel
theorem dX3_removeAt_23 : decode cX3_removeAt 23 = .ok (.iinc 2 1, 3) := by decide +kernel
theorem dX3_removeAt_26 : decode cX3_removeAt 26 = .ok (.goto (-24), 3) := by decide +kernel
theorem dX3_removeAt_29 : decode cX3_removeAt 29 = .ok (.aload_n 0, 1) := by decide +kernel
theorem dX3_removeAt_30 : decode cX3_removeAt 30 = .ok (.dup, 1) := by decide +kernel
theorem dX3_removeAt_31 : decode cX3_removeAt 31 = .ok (.getfield 34, 3) := by decide +kernel
theorem dX3_removeAt_34 : decode cX3_removeAt 34 = .ok (.iconst 1, 1) := by decide +kernel
theorem dX3_removeAt_35 : decode cX3_removeAt 35 = .ok (.isub, 1) := by decide +kernel
theorem dX3_removeAt_36 : decode cX3_removeAt 36 = .ok (.putfield 34, 3) := by decide +kernel
theorem dX3_removeAt_39 : decode cX3_removeAt 39 = .ok (.return_, 1) := by decide +kernel
set_option maxRecDepth 20000 in
theorem ggX3_slotsOfEntry_X7_at : GoodIn wsX3_slotsOfEntry wsX7_at := goodIn_r _ [6, 7, 8, 13, 14] (by decide +kernel) (by decide +kernel)
set_option maxRecDepth 20000 in
theorem gX3_slotsOfEntry_X7_at : GoodIn wsX3_slotsOfEntry (wsV RX3 38 RX7 yX7_at wsX7_at) := goodIn_app (goodIn_of _ (by decide +kernel)) ggX3_slotsOfEntry_X7_at
theorem dX3_slotsOfEntry_0 : decode cX3_slotsOfEntry 0 = .ok (.aload_n 0, 1) := by decide +kernel
theorem dX3_slotsOfEntry_1 : decode cX3_slotsOfEntry 1 = .ok (.getfield 20, 3) := by decide +kernel
theorem dX3_slotsOfEntry_4 : decode cX3_slotsOfEntry 4 = .ok (.iload_n 1, 1) := by decide +kernel
theorem dX3_slotsOfEntry_5 : decode cX3_slotsOfEntry 5 = .ok (.iconst 1, 1) := by decide +kernel
theorem dX3_slotsOfEntry_6 : decode cX3_slotsOfEntry 6 = .ok (.invokevirtual 38, 3) := by decide +kernel
theorem dX3_slotsOfEntry_9 : decode cX3_slotsOfEntry 9 = .ok (.iconst 1, 1) := by decide +kernel
theorem dX3_slotsOfEntry_10 : decode cX3_slotsOfEntry 10 = .ok (.iadd, 1) := by decide +kernel
theorem dX3_slotsOfEntry_11 : decode cX3_slotsOfEntry 11 = .ok (.ireturn, 1) := by decide +kernel
set_option maxRecDepth 20000 in
theorem ggX3_slotsOfScan_X3_slotsOfEntry : GoodIn wsX3_slotsOfScan wsX3_slotsOfEntry := goodIn_r _ [6, 7, 8, 9, 10, 11, 12, 13, 14, 15, 16, 17, 18, 19, 20] (by decide +kernel) (by decide +kernel)
set_option maxRecDepth 20000 in
theorem gX3_slotsOfScan_X3_slotsOfEntry : GoodIn wsX3_slotsOfScan (wsV RX3 45 RX3 yX3_slotsOfEntry wsX3_slotsOfEntry) := goodIn_app (goodIn_of _ (by decide +kernel)) ggX3_slotsOfScan_X3_slotsOfEntry
theorem dX3_slotsOfScan_0 : decode cX3_slotsOfScan 0 = .ok (.iconst 0, 1) := by decide +kernel
theorem dX3_slotsOfScan_1 : decode cX3_slotsOfScan 1 = .ok (.istore_n 1, 1) := by decide +kernel
theorem dX3_slotsOfScan_2 : decode cX3_slotsOfScan 2 = .ok (.iconst 0, 1) := by decide +kernel
theorem dX3_slotsOfScan_3 : decode cX3_slotsOfScan 3 = .ok (.istore_n 2, 1) := by decide +kernel
theorem dX3_slotsOfScan_4 : decode cX3_slotsOfScan 4 = .ok (.iload_n 2, 1) := by decide +kernel
theorem dX3_slotsOfScan_5 : decode cX3_slotsOfScan 5 = .ok (.aload_n 0, 1) := by decide +kernel
theorem dX3_slotsOfScan_6 : decode cX3_slotsOfScan 6 = .ok (.getfield 34, 3) := by decide +kernel
theorem dX3_slotsOfScan_9 : decode cX3_slotsOfScan 9 = .ok (.if_icmp .ge 17, 3) := by decide +kernel
theorem dX3_slotsOfScan_12 : decode cX3_slotsOfScan 12 = .ok (.iload_n 1, 1) := by decide +kernel
theorem dX3_slotsOfScan_13 : decode cX3_slotsOfScan 13 = .ok (.aload_n 0, 1) := by decide +kernel
theorem dX3_slotsOfScan_14 : decode cX3_slotsOfScan 14 = .ok (.iload_n 2, 1) := by decide +kernel
theorem dX3_slotsOfScan_15 : decode cX3_slotsOfScan 15 = .ok (.invokevirtual 45, 3) := by decide +kernel
theorem dX3_slotsOfScan_18 : decode cX3_slotsOfScan 18 = .ok (.iadd, 1) := by decide +kernel
theorem dX3_slotsOfScan_19 : decode cX3_slotsOfScan 19 = .ok (.istore_n 1, 1) := by decide +kernel
theorem dX3_slotsOfScan_20 : decode cX3_slotsOfScan 20 = .ok (.iinc 2 1, 3) := by decide +kernel
theorem dX3_slotsOfScan_23 : decode cX3_slotsOfScan 23 = .ok (.goto (-19), 3) := by decide +kernel
theorem dX3_slotsOfScan_26 : decode cX3_slotsOfScan 26 = .ok (.iload_n 1, 1) := by decide +kernel
theorem dX3_slotsOfScan_27 : decode cX3_slotsOfScan 27 = .ok (.ireturn, 1) := by decide +kernel
set_option maxRecDepth 20000 in
theorem ggX3_resistanceAt_X7_at : GoodIn wsX3_resistanceAt wsX7_at := goodIn_r _ [6, 7, 8, 13, 14] (by decide +kernel) (by decide +kernel)
set_option maxRecDepth 20000 in
theorem gX3_resistanceAt_X7_at : GoodIn wsX3_resistanceAt (wsV RX3 38 RX7 yX7_at wsX7_at) := goodIn_app (goodIn_of _ (by decide +kernel)) ggX3_resistanceAt_X7_at
theorem dX3_resistanceAt_0 : decode cX3_resistanceAt 0 = .ok (.iload_n 1, 1) := by decide +kernel
theorem dX3_resistanceAt_1 : decode cX3_resistanceAt 1 = .ok (.bipush 8, 2) := by decide +kernel
theorem dX3_resistanceAt_3 : decode cX3_resistanceAt 3 = .ok (.if_icmp .ge 15, 3) := by decide +kernel
theorem dX3_resistanceAt_6 : decode cX3_resistanceAt 6 = .ok (.aload_n 0, 1) := by decide +kernel
theorem dX3_resistanceAt_7 : decode cX3_resistanceAt 7 = .ok (.getfield 14, 3) := by decide +kernel
theorem dX3_resistanceAt_10 : decode cX3_resistanceAt 10 = .ok (.iload_n 1, 1) := by decide +kernel
theorem dX3_resistanceAt_11 : decode cX3_resistanceAt 11 = .ok (.iconst 4, 1) := by decide +kernel
theorem dX3_resistanceAt_12 : decode cX3_resistanceAt 12 = .ok (.invokevirtual 38, 3) := by decide +kernel
theorem dX3_resistanceAt_15 : decode cX3_resistanceAt 15 = .ok (.goto 4, 3) := by decide +kernel
theorem dX3_resistanceAt_18 : decode cX3_resistanceAt 18 = .ok (.iconst 0, 1) := by decide +kernel
theorem dX3_resistanceAt_19 : decode cX3_resistanceAt 19 = .ok (.ireturn, 1) := by decide +kernel
set_option maxRecDepth 20000 in
theorem ggX3_valueAt_X3_setting : GoodIn wsX3_valueAt wsX3_setting := goodIn_r _ [13, 14, 15, 16, 17, 18, 19, 20, 21, 29, 30, 31, 32, 33, 34] (by decide +kernel) (by decide +kernel)
set_option maxRecDepth 20000 in
theorem gX3_valueAt_X3_setting : GoodIn wsX3_valueAt (wsV RX3 49 RX3 yX3_setting wsX3_setting) := goodIn_app (goodIn_of _ (by decide +kernel)) ggX3_valueAt_X3_setting
set_option maxRecDepth 20000 in
theorem ggX3_valueAt_X7_at : GoodIn wsX3_valueAt wsX7_at := goodIn_r _ [19, 20, 21, 33, 34] (by decide +kernel) (by decide +kernel)
set_option maxRecDepth 20000 in
theorem gX3_valueAt_X7_at : GoodIn wsX3_valueAt (wsV RX3 38 RX7 yX7_at wsX7_at) := goodIn_app (goodIn_of _ (by decide +kernel)) ggX3_valueAt_X7_at
set_option maxRecDepth 20000 in
theorem ggX3_valueAt_J9_floorDiv_7cf53 : GoodIn wsX3_valueAt wsJ9_floorDiv_7cf53 := goodIn_r _ [25] (by decide +kernel) (by decide +kernel)
set_option maxRecDepth 20000 in
theorem gX3_valueAt_J9_floorDiv_7cf53 : GoodIn wsX3_valueAt (va_wsS RX3 52 yJ9_floorDiv_7cf53 wsJ9_floorDiv_7cf53) := goodIn_app (goodIn_of _ (by decide +kernel)) ggX3_valueAt_J9_floorDiv_7cf53
set_option maxRecDepth 20000 in
theorem ggX3_valueAt_X3_isFirstHalf : GoodIn wsX3_valueAt wsX3_isFirstHalf := goodIn_r _ [28] (by decide +kernel) (by decide +kernel)
set_option maxRecDepth 20000 in
theorem gX3_valueAt_X3_isFirstHalf : GoodIn wsX3_valueAt (va_wsS RX3 63 yX3_isFirstHalf wsX3_isFirstHalf) := goodIn_app (goodIn_of _ (by decide +kernel)) ggX3_valueAt_X3_isFirstHalf
theorem dX3_valueAt_0 : decode cX3_valueAt 0 = .ok (.iload_n 1, 1) := by decide +kernel
theorem dX3_valueAt_1 : decode cX3_valueAt 1 = .ok (.bipush 8, 2) := by decide +kernel
theorem dX3_valueAt_3 : decode cX3_valueAt 3 = .ok (.if_icmp .ne 5, 3) := by decide +kernel
theorem dX3_valueAt_6 : decode cX3_valueAt 6 = .ok (.iconst 0, 1) := by decide +kernel
theorem dX3_valueAt_7 : decode cX3_valueAt 7 = .ok (.ireturn, 1) := by decide +kernel
theorem dX3_valueAt_8 : decode cX3_valueAt 8 = .ok (.iload_n 1, 1) := by decide +kernel
theorem dX3_valueAt_9 : decode cX3_valueAt 9 = .ok (.bipush 9, 2) := by decide +kernel
theorem dX3_valueAt_11 : decode cX3_valueAt 11 = .ok (.if_icmp .ne 9, 3) := by decide +kernel
theorem dX3_valueAt_14 : decode cX3_valueAt 14 = .ok (.aload_n 0, 1) := by decide +kernel
theorem dX3_valueAt_15 : decode cX3_valueAt 15 = .ok (.iconst 0, 1) := by decide +kernel
theorem dX3_valueAt_16 : decode cX3_valueAt 16 = .ok (.invokevirtual 49, 3) := by decide +kernel
theorem dX3_valueAt_19 : decode cX3_valueAt 19 = .ok (.ireturn, 1) := by decide +kernel
theorem dX3_valueAt_20 : decode cX3_valueAt 20 = .ok (.aload_n 0, 1) := by decide +kernel
theorem dX3_valueAt_21 : decode cX3_valueAt 21 = .ok (.getfield 14, 3) := by decide +kernel
theorem dX3_valueAt_24 : decode cX3_valueAt 24 = .ok (.iload_n 1, 1) := by decide +kernel
theorem dX3_valueAt_25 : decode cX3_valueAt 25 = .ok (.iconst 1, 1) := by decide +kernel
theorem dX3_valueAt_26 : decode cX3_valueAt 26 = .ok (.invokevirtual 38, 3) := by decide +kernel
theorem dX3_valueAt_29 : decode cX3_valueAt 29 = .ok (.istore_n 3, 1) := by decide +kernel
theorem dX3_valueAt_30 : decode cX3_valueAt 30 = .ok (.aload_n 0, 1) := by decide +kernel
theorem dX3_valueAt_31 : decode cX3_valueAt 31 = .ok (.getfield 14, 3) := by decide +kernel
theorem dX3_valueAt_34 : decode cX3_valueAt 34 = .ok (.iload_n 1, 1) := by decide +kernel
theorem dX3_valueAt_35 : decode cX3_valueAt 35 = .ok (.iconst 2, 1) := by decide +kernel
theorem dX3_valueAt_36 : decode cX3_valueAt 36 = .ok (.invokevirtual 38, 3) := by decide +kernel
theorem dX3_valueAt_39 : decode cX3_valueAt 39 = .ok (.istore 4, 2) := by decide +kernel
theorem dX3_valueAt_41 : decode cX3_valueAt 41 = .ok (.aload_n 0, 1) := by decide +kernel
theorem dX3_valueAt_42 : decode cX3_valueAt 42 = .ok (.getfield 14, 3) := by decide +kernel
theorem dX3_valueAt_45 : decode cX3_valueAt 45 = .ok (.iload_n 1, 1) := by decide +kernel
theorem dX3_valueAt_46 : decode cX3_valueAt 46 = .ok (.iconst 0, 1) := by decide +kernel
theorem dX3_valueAt_47 : decode cX3_valueAt 47 = .ok (.invokevirtual 38, 3) := by decide +kernel
theorem dX3_valueAt_50 : decode cX3_valueAt 50 = .ok (.lookupswitch 71 #[(1, 26), (2, 48)], 26) := by decide +kernel
theorem dX3_valueAt_76 : decode cX3_valueAt 76 = .ok (.iconst 0, 1) := by decide +kernel
theorem dX3_valueAt_77 : decode cX3_valueAt 77 = .ok (.sipush 4095, 3) := by decide +kernel
theorem dX3_valueAt_80 : decode cX3_valueAt 80 = .ok (.iload_n 3, 1) := by decide +kernel
theorem dX3_valueAt_81 : decode cX3_valueAt 81 = .ok (.iload 4, 2) := by decide +kernel
theorem dX3_valueAt_83 : decode cX3_valueAt 83 = .ok (.iload_n 2, 1) := by decide +kernel
theorem dX3_valueAt_84 : decode cX3_valueAt 84 = .ok (.imul, 1) := by decide +kernel
theorem dX3_valueAt_85 : decode cX3_valueAt 85 = .ok (.bipush 16, 2) := by decide +kernel
theorem dX3_valueAt_87 : decode cX3_valueAt 87 = .ok (.invokestatic 52, 3) := by decide +kernel
theorem dX3_valueAt_90 : decode cX3_valueAt 90 = .ok (.iadd, 1) := by decide +kernel
theorem dX3_valueAt_91 : decode cX3_valueAt 91 = .ok (.invokestatic 57, 3) := by decide +kernel
theorem dX3_valueAt_94 : decode cX3_valueAt 94 = .ok (.invokestatic 60, 3) := by decide +kernel
theorem dX3_valueAt_97 : decode cX3_valueAt 97 = .ok (.ireturn, 1) := by decide +kernel
theorem dX3_valueAt_98 : decode cX3_valueAt 98 = .ok (.iload_n 2, 1) := by decide +kernel
theorem dX3_valueAt_99 : decode cX3_valueAt 99 = .ok (.aload_n 0, 1) := by decide +kernel
theorem dX3_valueAt_100 : decode cX3_valueAt 100 = .ok (.getfield 14, 3) := by decide +kernel
theorem dX3_valueAt_103 : decode cX3_valueAt 103 = .ok (.iload_n 1, 1) := by decide +kernel
theorem dX3_valueAt_104 : decode cX3_valueAt 104 = .ok (.iconst 3, 1) := by decide +kernel
theorem dX3_valueAt_105 : decode cX3_valueAt 105 = .ok (.invokevirtual 38, 3) := by decide +kernel
theorem dX3_valueAt_108 : decode cX3_valueAt 108 = .ok (.invokestatic 63, 3) := by decide +kernel
theorem dX3_valueAt_111 : decode cX3_valueAt 111 = .ok (.ifCond .eq 7, 3) := by decide +kernel
theorem dX3_valueAt_114 : decode cX3_valueAt 114 = .ok (.iload_n 3, 1) := by decide +kernel
theorem dX3_valueAt_115 : decode cX3_valueAt 115 = .ok (.goto 5, 3) := by decide +kernel
theorem dX3_valueAt_118 : decode cX3_valueAt 118 = .ok (.iload 4, 2) := by decide +kernel
theorem dX3_valueAt_120 : decode cX3_valueAt 120 = .ok (.ireturn, 1) := by decide +kernel
theorem dX3_valueAt_121 : decode cX3_valueAt 121 = .ok (.iload_n 3, 1) := by decide +kernel
theorem dX3_valueAt_122 : decode cX3_valueAt 122 = .ok (.ireturn, 1) := by decide +kernel
theorem dX3_isFirstHalf_0 : decode cX3_isFirstHalf 0 = .ok (.iload_n 1, 1) := by decide +kernel
theorem dX3_isFirstHalf_1 : decode cX3_isFirstHalf 1 = .ok (.ifCond .le 16, 3) := by decide +kernel
theorem dX3_isFirstHalf_4 : decode cX3_isFirstHalf 4 = .ok (.iload_n 0, 1) := by decide +kernel
theorem dX3_isFirstHalf_5 : decode cX3_isFirstHalf 5 = .ok (.iload_n 1, 1) := by decide +kernel
theorem dX3_isFirstHalf_6 : decode cX3_isFirstHalf 6 = .ok (.irem, 1) := by decide +kernel
theorem dX3_isFirstHalf_7 : decode cX3_isFirstHalf 7 = .ok (.iload_n 1, 1) := by decide +kernel
theorem dX3_isFirstHalf_8 : decode cX3_isFirstHalf 8 = .ok (.iconst 2, 1) := by decide +kernel
theorem dX3_isFirstHalf_9 : decode cX3_isFirstHalf 9 = .ok (.idiv, 1) := by decide +kernel
theorem dX3_isFirstHalf_10 : decode cX3_isFirstHalf 10 = .ok (.if_icmp .ge 7, 3) := by decide +kernel
theorem dX3_isFirstHalf_13 : decode cX3_isFirstHalf 13 = .ok (.iconst 1, 1) := by decide +kernel
theorem dX3_isFirstHalf_14 : decode cX3_isFirstHalf 14 = .ok (.goto 4, 3) := by decide +kernel
theorem dX3_isFirstHalf_17 : decode cX3_isFirstHalf 17 = .ok (.iconst 0, 1) := by decide +kernel
theorem dX3_isFirstHalf_18 : decode cX3_isFirstHalf 18 = .ok (.ireturn, 1) := by decide +kernel
set_option maxRecDepth 20000 in
theorem ggX3_readingOf_X3_setting : GoodIn wsX3_readingOf wsX3_setting := goodIn_r _ [5, 6, 7, 8, 9, 10, 11, 12, 13, 23, 24, 25, 26, 27, 28] (by decide +kernel) (by decide +kernel)
set_option maxRecDepth 20000 in
theorem gX3_readingOf_X3_setting : GoodIn wsX3_readingOf (wsV RX3 49 RX3 yX3_setting wsX3_setting) := goodIn_app (goodIn_of _ (by decide +kernel)) ggX3_readingOf_X3_setting
set_option maxRecDepth 20000 in
theorem ggX3_readingOf_X10_readingWith : GoodIn wsX3_readingOf wsX10_readingWith := goodIn_r _ [16, 17, 18, 19, 20, 21, 22] (by decide +kernel) (by decide +kernel)
set_option maxRecDepth 20000 in
theorem gX3_readingOf_X10_readingWith_n67 : GoodIn wsX3_readingOf (wsX10_readingWith) := ggX3_readingOf_X10_readingWith
theorem dX3_readingOf_0 : decode cX3_readingOf 0 = .ok (.fload_n 1, 1) := by decide +kernel
theorem dX3_readingOf_1 : decode cX3_readingOf 1 = .ok (.aload_n 0, 1) := by decide +kernel
theorem dX3_readingOf_2 : decode cX3_readingOf 2 = .ok (.iconst 1, 1) := by decide +kernel
theorem dX3_readingOf_3 : decode cX3_readingOf 3 = .ok (.invokevirtual 49, 3) := by decide +kernel
theorem dX3_readingOf_6 : decode cX3_readingOf 6 = .ok (.aload_n 0, 1) := by decide +kernel
theorem dX3_readingOf_7 : decode cX3_readingOf 7 = .ok (.iconst 2, 1) := by decide +kernel
theorem dX3_readingOf_8 : decode cX3_readingOf 8 = .ok (.invokevirtual 49, 3) := by decide +kernel
theorem dX3_readingOf_11 : decode cX3_readingOf 11 = .ok (.invokestatic 67, 3) := by decide +kernel
theorem dX3_readingOf_14 : decode cX3_readingOf 14 = .ok (.ireturn, 1) := by decide +kernel
set_option maxRecDepth 20000 in
theorem ggX4_init_X3_init : GoodIn wsX4_init wsX3_init := goodIn_r _ [10, 11, 2, 3, 12, 13, 14, 15, 16, 17, 18, 19, 20, 21, 22, 23, 24, 25, 26, 27, 28, 29, 30, 31, 32, 39, 40, 33, 34, 35, 36] (by decide +kernel) (by decide +kernel)
set_option maxRecDepth 20000 in
theorem gX4_init_X3_init : GoodIn wsX4_init (wsX3_init) := ggX4_init_X3_init
theorem dX4_init_0 : decode cX4_init 0 = .ok (.aload_n 0, 1) := by decide +kernel
theorem dX4_init_1 : decode cX4_init 1 = .ok (.invokespecial 1, 3) := by decide +kernel
theorem dX4_init_4 : decode cX4_init 4 = .ok (.aload_n 0, 1) := by decide +kernel
theorem dX4_init_5 : decode cX4_init 5 = .ok (.new 7, 3) := by decide +kernel
theorem dX4_init_8 : decode cX4_init 8 = .ok (.dup, 1) := by decide +kernel
theorem dX4_init_9 : decode cX4_init 9 = .ok (.invokespecial 9, 3) := by decide +kernel
theorem dX4_init_12 : decode cX4_init 12 = .ok (.putfield 10, 3) := by decide +kernel
theorem dX4_init_15 : decode cX4_init 15 = .ok (.return_, 1) := by decide +kernel
set_option maxRecDepth 20000 in
theorem ggX4_copyFrom_X3_copyFrom : GoodIn wsX4_copyFrom wsX3_copyFrom := goodIn_r _ [7, 8, 9, 10, 11, 12, 13, 14, 15, 16, 17, 18, 19, 20, 21, 22, 23, 24, 25, 28, 29, 30, 31, 32, 33] (by decide +kernel) (by decide +kernel)
set_option maxRecDepth 20000 in
theorem gX4_copyFrom_X3_copyFrom : GoodIn wsX4_copyFrom (wsV RX4 16 RX3 yX3_copyFrom wsX3_copyFrom) := goodIn_app (goodIn_of _ (by decide +kernel)) ggX4_copyFrom_X3_copyFrom
theorem dX4_copyFrom_0 : decode cX4_copyFrom 0 = .ok (.aload_n 0, 1) := by decide +kernel
theorem dX4_copyFrom_1 : decode cX4_copyFrom 1 = .ok (.getfield 10, 3) := by decide +kernel
theorem dX4_copyFrom_4 : decode cX4_copyFrom 4 = .ok (.aload_n 1, 1) := by decide +kernel
theorem dX4_copyFrom_5 : decode cX4_copyFrom 5 = .ok (.getfield 10, 3) := by decide +kernel
theorem dX4_copyFrom_8 : decode cX4_copyFrom 8 = .ok (.invokevirtual 16, 3) := by decide +kernel
theorem dX4_copyFrom_11 : decode cX4_copyFrom 11 = .ok (.aload_n 0, 1) := by decide +kernel
theorem dX4_copyFrom_12 : decode cX4_copyFrom 12 = .ok (.aload_n 1, 1) := by decide +kernel
theorem dX4_copyFrom_13 : decode cX4_copyFrom 13 = .ok (.getfield 20, 3) := by decide +kernel
theorem dX4_copyFrom_16 : decode cX4_copyFrom 16 = .ok (.putfield 20, 3) := by decide +kernel
theorem dX4_copyFrom_19 : decode cX4_copyFrom 19 = .ok (.return_, 1) := by decide +kernel
set_option maxRecDepth 20000 in
theorem ggX5_init_X7_init : GoodIn wsX5_init wsX7_init := goodIn_r _ [12, 13, 2, 3, 14, 15, 16, 17, 18, 19, 20, 21, 22] (by decide +kernel) (by decide +kernel)
set_option maxRecDepth 20000 in
theorem gX5_init_X7_init : GoodIn wsX5_init (wsX7_init) := ggX5_init_X7_init
theorem dX5_init_0 : decode cX5_init 0 = .ok (.aload_n 0, 1) := by decide +kernel
theorem dX5_init_1 : decode cX5_init 1 = .ok (.invokespecial 3, 3) := by decide +kernel
theorem dX5_init_4 : decode cX5_init 4 = .ok (.aload_n 0, 1) := by decide +kernel
theorem dX5_init_5 : decode cX5_init 5 = .ok (.new 9, 3) := by decide +kernel
theorem dX5_init_8 : decode cX5_init 8 = .ok (.dup, 1) := by decide +kernel
theorem dX5_init_9 : decode cX5_init 9 = .ok (.bipush 16, 2) := by decide +kernel
theorem dX5_init_11 : decode cX5_init 11 = .ok (.iconst 1, 1) := by decide +kernel
theorem dX5_init_12 : decode cX5_init 12 = .ok (.invokespecial 11, 3) := by decide +kernel
theorem dX5_init_15 : decode cX5_init 15 = .ok (.putfield 14, 3) := by decide +kernel
theorem dX5_init_18 : decode cX5_init 18 = .ok (.aload_n 0, 1) := by decide +kernel
theorem dX5_init_19 : decode cX5_init 19 = .ok (.new 9, 3) := by decide +kernel
theorem dX5_init_22 : decode cX5_init 22 = .ok (.dup, 1) := by decide +kernel
theorem dX5_init_23 : decode cX5_init 23 = .ok (.bipush 16, 2) := by decide +kernel
theorem dX5_init_25 : decode cX5_init 25 = .ok (.iconst 1, 1) := by decide +kernel
theorem dX5_init_26 : decode cX5_init 26 = .ok (.invokespecial 11, 3) := by decide +kernel
theorem dX5_init_29 : decode cX5_init 29 = .ok (.putfield 20, 3) := by decide +kernel
theorem dX5_init_32 : decode cX5_init 32 = .ok (.aload_n 0, 1) := by decide +kernel
theorem dX5_init_33 : decode cX5_init 33 = .ok (.new 9, 3) := by decide +kernel
theorem dX5_init_36 : decode cX5_init 36 = .ok (.dup, 1) := by decide +kernel
theorem dX5_init_37 : decode cX5_init 37 = .ok (.bipush 16, 2) := by decide +kernel
theorem dX5_init_39 : decode cX5_init 39 = .ok (.iconst 2, 1) := by decide +kernel
theorem dX5_init_40 : decode cX5_init 40 = .ok (.invokespecial 11, 3) := by decide +kernel
theorem dX5_init_43 : decode cX5_init 43 = .ok (.putfield 23, 3) := by decide +kernel
theorem dX5_init_46 : decode cX5_init 46 = .ok (.return_, 1) := by decide +kernel
set_option maxRecDepth 20000 in
theorem ggX5_arrange_X5_keyOf : GoodIn wsX5_arrange wsX5_keyOf := goodIn_r _ [8, 3, 9, 10, 11, 12, 13, 14, 15, 16, 17, 18, 19, 20, 21, 22, 23, 24, 25, 26, 27, 28, 29, 30, 31, 32, 33, 34, 35, 36, 37, 38, 39, 40, 41, 42, 43, 44, 45, 70, 71, 72, 73, 77, 78] (by decide +kernel) (by decide +kernel)
set_option maxRecDepth 20000 in
theorem gX5_arrange_X5_keyOf : GoodIn wsX5_arrange (va_wsS RX5 32 yX5_keyOf wsX5_keyOf) := goodIn_app (goodIn_of _ (by decide +kernel)) ggX5_arrange_X5_keyOf
set_option maxRecDepth 20000 in
theorem ggX5_arrange_X5_sortIn : GoodIn wsX5_arrange wsX5_sortIn := goodIn_r _ [49, 50, 4, 9, 10, 11, 12, 13, 14, 15, 51, 52, 53, 54, 55, 56, 57, 58, 59, 60, 74, 75, 76, 77, 78] (by decide +kernel) (by decide +kernel)
set_option maxRecDepth 20000 in
theorem gX5_arrange_X5_sortIn : GoodIn wsX5_arrange (wsV RX5 36 RX5 yX5_sortIn wsX5_sortIn) := goodIn_app (goodIn_of _ (by decide +kernel)) ggX5_arrange_X5_sortIn
set_option maxRecDepth 20000 in
theorem ggX5_arrange_X7_copyFrom : GoodIn wsX5_arrange wsX7_copyFrom := goodIn_r _ [64, 15, 65, 28, 29, 30, 66, 67, 68, 69, 77, 78] (by decide +kernel) (by decide +kernel)
set_option maxRecDepth 20000 in
theorem gX5_arrange_X7_copyFrom : GoodIn wsX5_arrange (wsV RX5 42 RX7 yX7_copyFrom wsX7_copyFrom) := goodIn_app (goodIn_of _ (by decide +kernel)) ggX5_arrange_X7_copyFrom
set_option maxRecDepth 20000 in
theorem ggX5_arrange_X7_at : GoodIn wsX5_arrange wsX7_at := goodIn_r _ [13, 14, 15, 77, 78] (by decide +kernel) (by decide +kernel)
set_option maxRecDepth 20000 in
theorem gX5_arrange_X7_at : GoodIn wsX5_arrange (wsV RX5 46 RX7 yX7_at wsX7_at) := goodIn_app (goodIn_of _ (by decide +kernel)) ggX5_arrange_X7_at
set_option maxRecDepth 20000 in
theorem ggX5_arrange_X7_put : GoodIn wsX5_arrange wsX7_put := goodIn_r _ [59, 14, 15, 77, 78] (by decide +kernel) (by decide +kernel)
set_option maxRecDepth 20000 in
theorem gX5_arrange_X7_put : GoodIn wsX5_arrange (wsV RX5 50 RX7 yX7_put wsX7_put) := goodIn_app (goodIn_of _ (by decide +kernel)) ggX5_arrange_X7_put
theorem dX5_arrange_0 : decode cX5_arrange 0 = .ok (.iconst 0, 1) := by decide +kernel
theorem dX5_arrange_1 : decode cX5_arrange 1 = .ok (.istore 4, 2) := by decide +kernel
theorem dX5_arrange_3 : decode cX5_arrange 3 = .ok (.iload 4, 2) := by decide +kernel
theorem dX5_arrange_5 : decode cX5_arrange 5 = .ok (.aload_n 1, 1) := by decide +kernel
theorem dX5_arrange_6 : decode cX5_arrange 6 = .ok (.getfield 26, 3) := by decide +kernel
theorem dX5_arrange_9 : decode cX5_arrange 9 = .ok (.if_icmp .ge 23, 3) := by decide +kernel
theorem dX5_arrange_12 : decode cX5_arrange 12 = .ok (.aload_n 0, 1) := by decide +kernel
theorem dX5_arrange_13 : decode cX5_arrange 13 = .ok (.iload 4, 2) := by decide +kernel
theorem dX5_arrange_15 : decode cX5_arrange 15 = .ok (.aload_n 1, 1) := by decide +kernel
theorem dX5_arrange_16 : decode cX5_arrange 16 = .ok (.iload 4, 2) := by decide +kernel
theorem dX5_arrange_18 : decode cX5_arrange 18 = .ok (.iload_n 2, 1) := by decide +kernel
theorem dX5_arrange_19 : decode cX5_arrange 19 = .ok (.iload_n 3, 1) := by decide +kernel
theorem dX5_arrange_20 : decode cX5_arrange 20 = .ok (.invokestatic 32, 3) := by decide +kernel
theorem dX5_arrange_23 : decode cX5_arrange 23 = .ok (.invokevirtual 36, 3) := by decide +kernel
theorem dX5_arrange_26 : decode cX5_arrange 26 = .ok (.iinc 4 1, 3) := by decide +kernel
theorem dX5_arrange_29 : decode cX5_arrange 29 = .ok (.goto (-26), 3) := by decide +kernel
theorem dX5_arrange_32 : decode cX5_arrange 32 = .ok (.aload_n 0, 1) := by decide +kernel
theorem dX5_arrange_33 : decode cX5_arrange 33 = .ok (.getfield 23, 3) := by decide +kernel
theorem dX5_arrange_36 : decode cX5_arrange 36 = .ok (.aload_n 1, 1) := by decide +kernel
theorem dX5_arrange_37 : decode cX5_arrange 37 = .ok (.getfield 39, 3) := by decide +kernel
theorem dX5_arrange_40 : decode cX5_arrange 40 = .ok (.invokevirtual 42, 3) := by decide +kernel
theorem dX5_arrange_43 : decode cX5_arrange 43 = .ok (.iconst 0, 1) := by decide +kernel
theorem dX5_arrange_44 : decode cX5_arrange 44 = .ok (.istore 4, 2) := by decide +kernel
theorem dX5_arrange_46 : decode cX5_arrange 46 = .ok (.iconst 0, 1) := by decide +kernel
theorem dX5_arrange_47 : decode cX5_arrange 47 = .ok (.istore 5, 2) := by decide +kernel
theorem dX5_arrange_49 : decode cX5_arrange 49 = .ok (.iload 5, 2) := by decide +kernel
theorem dX5_arrange_51 : decode cX5_arrange 51 = .ok (.aload_n 1, 1) := by decide +kernel
theorem dX5_arrange_52 : decode cX5_arrange 52 = .ok (.getfield 26, 3) := by decide +kernel
theorem dX5_arrange_55 : decode cX5_arrange 55 = .ok (.if_icmp .ge 78, 3) := by decide +kernel
theorem dX5_arrange_58 : decode cX5_arrange 58 = .ok (.aload_n 0, 1) := by decide +kernel
theorem dX5_arrange_59 : decode cX5_arrange 59 = .ok (.getfield 20, 3) := by decide +kernel
theorem dX5_arrange_62 : decode cX5_arrange 62 = .ok (.iload 5, 2) := by decide +kernel
theorem dX5_arrange_64 : decode cX5_arrange 64 = .ok (.iconst 0, 1) := by decide +kernel
theorem dX5_arrange_65 : decode cX5_arrange 65 = .ok (.invokevirtual 46, 3) := by decide +kernel
theorem dX5_arrange_68 : decode cX5_arrange 68 = .ok (.istore 6, 2) := by decide +kernel
theorem dX5_arrange_70 : decode cX5_arrange 70 = .ok (.aload_n 1, 1) := by decide +kernel
theorem dX5_arrange_71 : decode cX5_arrange 71 = .ok (.getfield 39, 3) := by decide +kernel
theorem dX5_arrange_74 : decode cX5_arrange 74 = .ok (.iload 5, 2) := by decide +kernel
theorem dX5_arrange_76 : decode cX5_arrange 76 = .ok (.iconst 0, 1) := by decide +kernel
theorem dX5_arrange_77 : decode cX5_arrange 77 = .ok (.aload_n 0, 1) := by decide +kernel
theorem dX5_arrange_78 : decode cX5_arrange 78 = .ok (.getfield 23, 3) := by decide +kernel
theorem dX5_arrange_81 : decode cX5_arrange 81 = .ok (.iload 6, 2) := by decide +kernel
theorem dX5_arrange_83 : decode cX5_arrange 83 = .ok (.iconst 0, 1) := by decide +kernel
theorem dX5_arrange_84 : decode cX5_arrange 84 = .ok (.invokevirtual 46, 3) := by decide +kernel
theorem dX5_arrange_87 : decode cX5_arrange 87 = .ok (.invokevirtual 50, 3) := by decide +kernel
theorem dX5_arrange_90 : decode cX5_arrange 90 = .ok (.aload_n 1, 1) := by decide +kernel
theorem dX5_arrange_91 : decode cX5_arrange 91 = .ok (.getfield 39, 3) := by decide +kernel
theorem dX5_arrange_94 : decode cX5_arrange 94 = .ok (.iload 5, 2) := by decide +kernel
theorem dX5_arrange_96 : decode cX5_arrange 96 = .ok (.iconst 1, 1) := by decide +kernel
theorem dX5_arrange_97 : decode cX5_arrange 97 = .ok (.aload_n 0, 1) := by decide +kernel
theorem dX5_arrange_98 : decode cX5_arrange 98 = .ok (.getfield 23, 3) := by decide +kernel
theorem dX5_arrange_101 : decode cX5_arrange 101 = .ok (.iload 6, 2) := by decide +kernel
theorem dX5_arrange_103 : decode cX5_arrange 103 = .ok (.iconst 1, 1) := by decide +kernel
theorem dX5_arrange_104 : decode cX5_arrange 104 = .ok (.invokevirtual 46, 3) := by decide +kernel
theorem dX5_arrange_107 : decode cX5_arrange 107 = .ok (.invokevirtual 50, 3) := by decide +kernel
theorem dX5_arrange_110 : decode cX5_arrange 110 = .ok (.iload 4, 2) := by decide +kernel
theorem dX5_arrange_112 : decode cX5_arrange 112 = .ok (.iload 6, 2) := by decide +kernel
theorem dX5_arrange_114 : decode cX5_arrange 114 = .ok (.iload 5, 2) := by decide +kernel
theorem dX5_arrange_116 : decode cX5_arrange 116 = .ok (.if_icmp .eq 7, 3) := by decide +kernel
theorem dX5_arrange_119 : decode cX5_arrange 119 = .ok (.iconst 1, 1) := by decide +kernel
theorem dX5_arrange_120 : decode cX5_arrange 120 = .ok (.goto 4, 3) := by decide +kernel
theorem dX5_arrange_123 : decode cX5_arrange 123 = .ok (.iconst 0, 1) := by decide +kernel
theorem dX5_arrange_124 : decode cX5_arrange 124 = .ok (.iadd, 1) := by decide +kernel
theorem dX5_arrange_125 : decode cX5_arrange 125 = .ok (.istore 4, 2) := by decide +kernel
theorem dX5_arrange_127 : decode cX5_arrange 127 = .ok (.iinc 5 1, 3) := by decide +kernel
theorem dX5_arrange_130 : decode cX5_arrange 130 = .ok (.goto (-81), 3) := by decide +kernel
theorem dX5_arrange_133 : decode cX5_arrange 133 = .ok (.iload 4, 2) := by decide +kernel
theorem dX5_arrange_135 : decode cX5_arrange 135 = .ok (.ireturn, 1) := by decide +kernel
set_option maxRecDepth 20000 in
theorem ggX5_sortIn_X7_at : GoodIn wsX5_sortIn wsX7_at := goodIn_r _ [7, 8, 9, 23, 24] (by decide +kernel) (by decide +kernel)
set_option maxRecDepth 20000 in
theorem gX5_sortIn_X7_at : GoodIn wsX5_sortIn (wsV RX5 46 RX7 yX7_at wsX7_at) := goodIn_app (goodIn_of _ (by decide +kernel)) ggX5_sortIn_X7_at
set_option maxRecDepth 20000 in
theorem ggX5_sortIn_X7_copyRow : GoodIn wsX5_sortIn wsX7_copyRow := goodIn_r _ [13, 8, 14, 4, 5, 6, 7, 9, 15, 16, 17, 18, 23, 24] (by decide +kernel) (by decide +kernel)
set_option maxRecDepth 20000 in
theorem gX5_sortIn_X7_copyRow : GoodIn wsX5_sortIn (wsV RX5 54 RX7 yX7_copyRow wsX7_copyRow) := goodIn_app (goodIn_of _ (by decide +kernel)) ggX5_sortIn_X7_copyRow
set_option maxRecDepth 20000 in
theorem ggX5_sortIn_X7_put : GoodIn wsX5_sortIn wsX7_put := goodIn_r _ [18, 8, 9, 23, 24] (by decide +kernel) (by decide +kernel)
set_option maxRecDepth 20000 in
theorem gX5_sortIn_X7_put : GoodIn wsX5_sortIn (wsV RX5 50 RX7 yX7_put wsX7_put) := goodIn_app (goodIn_of _ (by decide +kernel)) ggX5_sortIn_X7_put
theorem dX5_sortIn_0 : decode cX5_sortIn 0 = .ok (.iload_n 1, 1) := by decide +kernel
theorem dX5_sortIn_1 : decode cX5_sortIn 1 = .ok (.istore_n 3, 1) := by decide +kernel
theorem dX5_sortIn_2 : decode cX5_sortIn 2 = .ok (.iload_n 3, 1) := by decide +kernel
theorem dX5_sortIn_3 : decode cX5_sortIn 3 = .ok (.ifCond .le 46, 3) := by decide +kernel
theorem dX5_sortIn_6 : decode cX5_sortIn 6 = .ok (.aload_n 0, 1) := by decide +kernel
theorem dX5_sortIn_7 : decode cX5_sortIn 7 = .ok (.getfield 14, 3) := by decide +kernel
theorem dX5_sortIn_10 : decode cX5_sortIn 10 = .ok (.iload_n 3, 1) := by decide +kernel
theorem dX5_sortIn_11 : decode cX5_sortIn 11 = .ok (.iconst 1, 1) := by decide +kernel
theorem dX5_sortIn_12 : decode cX5_sortIn 12 = .ok (.isub, 1) := by decide +kernel
theorem dX5_sortIn_13 : decode cX5_sortIn 13 = .ok (.iconst 0, 1) := by decide +kernel
theorem dX5_sortIn_14 : decode cX5_sortIn 14 = .ok (.invokevirtual 46, 3) := by decide +kernel
theorem dX5_sortIn_17 : decode cX5_sortIn 17 = .ok (.iload_n 2, 1) := by decide +kernel
theorem dX5_sortIn_18 : decode cX5_sortIn 18 = .ok (.if_icmp .le 31, 3) := by decide +kernel
theorem dX5_sortIn_21 : decode cX5_sortIn 21 = .ok (.aload_n 0, 1) := by decide +kernel
theorem dX5_sortIn_22 : decode cX5_sortIn 22 = .ok (.getfield 14, 3) := by decide +kernel
theorem dX5_sortIn_25 : decode cX5_sortIn 25 = .ok (.iload_n 3, 1) := by decide +kernel
theorem dX5_sortIn_26 : decode cX5_sortIn 26 = .ok (.iconst 1, 1) := by decide +kernel
theorem dX5_sortIn_27 : decode cX5_sortIn 27 = .ok (.isub, 1) := by decide +kernel
theorem dX5_sortIn_28 : decode cX5_sortIn 28 = .ok (.iload_n 3, 1) := by decide +kernel
theorem dX5_sortIn_29 : decode cX5_sortIn 29 = .ok (.invokevirtual 54, 3) := by decide +kernel
theorem dX5_sortIn_32 : decode cX5_sortIn 32 = .ok (.aload_n 0, 1) := by decide +kernel
theorem dX5_sortIn_33 : decode cX5_sortIn 33 = .ok (.getfield 20, 3) := by decide +kernel
theorem dX5_sortIn_36 : decode cX5_sortIn 36 = .ok (.iload_n 3, 1) := by decide +kernel
theorem dX5_sortIn_37 : decode cX5_sortIn 37 = .ok (.iconst 1, 1) := by decide +kernel
theorem dX5_sortIn_38 : decode cX5_sortIn 38 = .ok (.isub, 1) := by decide +kernel
theorem dX5_sortIn_39 : decode cX5_sortIn 39 = .ok (.iload_n 3, 1) := by decide +kernel
theorem dX5_sortIn_40 : decode cX5_sortIn 40 = .ok (.invokevirtual 54, 3) := by decide +kernel
theorem dX5_sortIn_43 : decode cX5_sortIn 43 = .ok (.iinc 3 (-1), 3) := by decide +kernel
theorem dX5_sortIn_46 : decode cX5_sortIn 46 = .ok (.goto (-44), 3) := by decide +kernel
theorem dX5_sortIn_49 : decode cX5_sortIn 49 = .ok (.aload_n 0, 1) := by decide +kernel
theorem dX5_sortIn_50 : decode cX5_sortIn 50 = .ok (.getfield 14, 3) := by decide +kernel
theorem dX5_sortIn_53 : decode cX5_sortIn 53 = .ok (.iload_n 3, 1) := by decide +kernel
theorem dX5_sortIn_54 : decode cX5_sortIn 54 = .ok (.iconst 0, 1) := by decide +kernel
theorem dX5_sortIn_55 : decode cX5_sortIn 55 = .ok (.iload_n 2, 1) := by decide +kernel
theorem dX5_sortIn_56 : decode cX5_sortIn 56 = .ok (.invokevirtual 50, 3) := by decide +kernel
theorem dX5_sortIn_59 : decode cX5_sortIn 59 = .ok (.aload_n 0, 1) := by decide +kernel
theorem dX5_sortIn_60 : decode cX5_sortIn 60 = .ok (.getfield 20, 3) := by decide +kernel
theorem dX5_sortIn_63 : decode cX5_sortIn 63 = .ok (.iload_n 3, 1) := by decide +kernel
theorem dX5_sortIn_64 : decode cX5_sortIn 64 = .ok (.iconst 0, 1) := by decide +kernel
theorem dX5_sortIn_65 : decode cX5_sortIn 65 = .ok (.iload_n 1, 1) := by decide +kernel
theorem dX5_sortIn_66 : decode cX5_sortIn 66 = .ok (.invokevirtual 50, 3) := by decide +kernel
theorem dX5_sortIn_69 : decode cX5_sortIn 69 = .ok (.return_, 1) := by decide +kernel
set_option maxRecDepth 20000 in
theorem ggX5_keyOf_X7_at : GoodIn wsX5_keyOf wsX7_at := goodIn_r _ [6, 7, 8, 43, 44] (by decide +kernel) (by decide +kernel)
set_option maxRecDepth 20000 in
theorem gX5_keyOf_X7_at : GoodIn wsX5_keyOf (wsV RX5 46 RX7 yX7_at wsX7_at) := goodIn_app (goodIn_of _ (by decide +kernel)) ggX5_keyOf_X7_at
set_option maxRecDepth 20000 in
theorem ggX5_keyOf_X3_resistanceAt : GoodIn wsX5_keyOf wsX3_resistanceAt := goodIn_r _ [13, 14, 15, 3, 4, 5, 6, 7, 8, 39, 40, 41, 42, 43, 44] (by decide +kernel) (by decide +kernel)
set_option maxRecDepth 20000 in
theorem gX5_keyOf_X3_resistanceAt : GoodIn wsX5_keyOf (wsV RX5 57 RX3 yX3_resistanceAt wsX3_resistanceAt) := goodIn_app (goodIn_of _ (by decide +kernel)) ggX5_keyOf_X3_resistanceAt
set_option maxRecDepth 20000 in
theorem ggX5_keyOf_X3_valueAt : GoodIn wsX5_keyOf wsX3_valueAt := goodIn_r _ [19, 14, 20, 21, 22, 23, 24, 25, 26, 27, 28, 29, 12, 30, 31, 15, 3, 4, 5, 6, 7, 8, 32, 33, 34, 35, 36, 37, 38, 39, 40, 41, 42, 43, 44] (by decide +kernel) (by decide +kernel)
set_option maxRecDepth 20000 in
theorem gX5_keyOf_X3_valueAt : GoodIn wsX5_keyOf (wsV RX5 61 RX3 yX3_valueAt wsX3_valueAt) := goodIn_app (goodIn_of _ (by decide +kernel)) ggX5_keyOf_X3_valueAt
theorem dX5_keyOf_0 : decode cX5_keyOf 0 = .ok (.aload_n 0, 1) := by decide +kernel
theorem dX5_keyOf_1 : decode cX5_keyOf 1 = .ok (.getfield 39, 3) := by decide +kernel
theorem dX5_keyOf_4 : decode cX5_keyOf 4 = .ok (.iload_n 1, 1) := by decide +kernel
theorem dX5_keyOf_5 : decode cX5_keyOf 5 = .ok (.iconst 0, 1) := by decide +kernel
theorem dX5_keyOf_6 : decode cX5_keyOf 6 = .ok (.invokevirtual 46, 3) := by decide +kernel
theorem dX5_keyOf_9 : decode cX5_keyOf 9 = .ok (.istore 4, 2) := by decide +kernel
theorem dX5_keyOf_11 : decode cX5_keyOf 11 = .ok (.iload_n 2, 1) := by decide +kernel
theorem dX5_keyOf_12 : decode cX5_keyOf 12 = .ok (.tableswitch 46 0 2 #[28, 31, 38], 28) := by decide +kernel
theorem dX5_keyOf_40 : decode cX5_keyOf 40 = .ok (.iload 4, 2) := by decide +kernel
theorem dX5_keyOf_42 : decode cX5_keyOf 42 = .ok (.ireturn, 1) := by decide +kernel
theorem dX5_keyOf_43 : decode cX5_keyOf 43 = .ok (.aload_n 0, 1) := by decide +kernel
theorem dX5_keyOf_44 : decode cX5_keyOf 44 = .ok (.iload 4, 2) := by decide +kernel
theorem dX5_keyOf_46 : decode cX5_keyOf 46 = .ok (.invokevirtual 57, 3) := by decide +kernel
theorem dX5_keyOf_49 : decode cX5_keyOf 49 = .ok (.ireturn, 1) := by decide +kernel
theorem dX5_keyOf_50 : decode cX5_keyOf 50 = .ok (.aload_n 0, 1) := by decide +kernel
theorem dX5_keyOf_51 : decode cX5_keyOf 51 = .ok (.iload 4, 2) := by decide +kernel
theorem dX5_keyOf_53 : decode cX5_keyOf 53 = .ok (.iload_n 3, 1) := by decide +kernel
theorem dX5_keyOf_54 : decode cX5_keyOf 54 = .ok (.invokevirtual 61, 3) := by decide +kernel
theorem dX5_keyOf_57 : decode cX5_keyOf 57 = .ok (.ireturn, 1) := by decide +kernel
theorem dX5_keyOf_58 : decode cX5_keyOf 58 = .ok (.iload_n 1, 1) := by decide +kernel
theorem dX5_keyOf_59 : decode cX5_keyOf 59 = .ok (.ineg, 1) := by decide +kernel
theorem dX5_keyOf_60 : decode cX5_keyOf 60 = .ok (.ireturn, 1) := by decide +kernel
set_option maxRecDepth 20000 in
theorem ggX6_init_X3_init : GoodIn wsX6_init wsX3_init := goodIn_r _ [25, 26, 2, 3, 27, 13, 14, 28, 29, 30, 31, 32, 33, 34, 35, 36, 37, 38, 39, 40, 41, 42, 43, 44, 45, 74, 75, 60, 61, 62, 63] (by decide +kernel) (by decide +kernel)
set_option maxRecDepth 20000 in
theorem gX6_init_X3_init : GoodIn wsX6_init (wsX3_init) := ggX6_init_X3_init
set_option maxRecDepth 20000 in
theorem ggX6_init_X2_init : GoodIn wsX6_init wsX2_init := goodIn_r _ [47, 48, 2, 3, 49, 13, 14, 50, 51, 32, 33, 34, 35, 36, 37, 38, 39, 40, 41, 74, 75, 71, 72, 73] (by decide +kernel) (by decide +kernel)
set_option maxRecDepth 20000 in
theorem gX6_init_X2_init_n20 : GoodIn wsX6_init (wsX2_init) := ggX6_init_X2_init
set_option maxRecDepth 20000 in
theorem ggX6_init_X7_init : GoodIn wsX6_init wsX7_init := goodIn_r _ [33, 34, 2, 3, 35, 36, 37, 38, 39, 40, 41, 74, 75] (by decide +kernel) (by decide +kernel)
set_option maxRecDepth 20000 in
theorem gX6_init_X7_init : GoodIn wsX6_init (wsX7_init) := ggX6_init_X7_init
set_option maxRecDepth 20000 in
theorem ggX6_init_X4_init : GoodIn wsX6_init wsX4_init := goodIn_r _ [54, 55, 2, 3, 56, 5, 6, 57, 58, 24, 25, 26, 27, 13, 14, 28, 29, 30, 31, 32, 33, 34, 35, 36, 37, 38, 39, 40, 41, 42, 43, 44, 45, 60, 61, 62, 63, 76, 77, 74, 75] (by decide +kernel) (by decide +kernel)
set_option maxRecDepth 20000 in
theorem gX6_init_X4_init_n39 : GoodIn wsX6_init (wsX4_init) := ggX6_init_X4_init
set_option maxRecDepth 20000 in
theorem ggX6_init_X7_put : GoodIn wsX6_init wsX7_put := goodIn_r _ [45, 39, 41, 74, 75] (by decide +kernel) (by decide +kernel)
set_option maxRecDepth 20000 in
theorem gX6_init_X7_put : GoodIn wsX6_init (wsV RX6 48 RX7 yX7_put wsX7_put) := goodIn_app (goodIn_of _ (by decide +kernel)) ggX6_init_X7_put
theorem dX6_init_0 : decode cX6_init 0 = .ok (.aload_n 0, 1) := by decide +kernel
theorem dX6_init_1 : decode cX6_init 1 = .ok (.invokespecial 3, 3) := by decide +kernel
theorem dX6_init_4 : decode cX6_init 4 = .ok (.aload_n 0, 1) := by decide +kernel
theorem dX6_init_5 : decode cX6_init 5 = .ok (.new 9, 3) := by decide +kernel
theorem dX6_init_8 : decode cX6_init 8 = .ok (.dup, 1) := by decide +kernel
theorem dX6_init_9 : decode cX6_init 9 = .ok (.invokespecial 11, 3) := by decide +kernel
theorem dX6_init_12 : decode cX6_init 12 = .ok (.putfield 12, 3) := by decide +kernel
theorem dX6_init_15 : decode cX6_init 15 = .ok (.aload_n 0, 1) := by decide +kernel
theorem dX6_init_16 : decode cX6_init 16 = .ok (.new 18, 3) := by decide +kernel
theorem dX6_init_19 : decode cX6_init 19 = .ok (.dup, 1) := by decide +kernel
theorem dX6_init_20 : decode cX6_init 20 = .ok (.invokespecial 20, 3) := by decide +kernel
theorem dX6_init_23 : decode cX6_init 23 = .ok (.putfield 21, 3) := by decide +kernel
theorem dX6_init_26 : decode cX6_init 26 = .ok (.aload_n 0, 1) := by decide +kernel
theorem dX6_init_27 : decode cX6_init 27 = .ok (.new 25, 3) := by decide +kernel
theorem dX6_init_30 : decode cX6_init 30 = .ok (.dup, 1) := by decide +kernel
theorem dX6_init_31 : decode cX6_init 31 = .ok (.bipush 10, 2) := by decide +kernel
theorem dX6_init_33 : decode cX6_init 33 = .ok (.iconst 1, 1) := by decide +kernel
theorem dX6_init_34 : decode cX6_init 34 = .ok (.invokespecial 27, 3) := by decide +kernel
theorem dX6_init_37 : decode cX6_init 37 = .ok (.putfield 30, 3) := by decide +kernel
theorem dX6_init_40 : decode cX6_init 40 = .ok (.aload_n 0, 1) := by decide +kernel
theorem dX6_init_41 : decode cX6_init 41 = .ok (.new 25, 3) := by decide +kernel
theorem dX6_init_44 : decode cX6_init 44 = .ok (.dup, 1) := by decide +kernel
theorem dX6_init_45 : decode cX6_init 45 = .ok (.bipush 6, 2) := by decide +kernel
theorem dX6_init_47 : decode cX6_init 47 = .ok (.iconst 1, 1) := by decide +kernel
theorem dX6_init_48 : decode cX6_init 48 = .ok (.invokespecial 27, 3) := by decide +kernel
theorem dX6_init_51 : decode cX6_init 51 = .ok (.putfield 34, 3) := by decide +kernel
theorem dX6_init_54 : decode cX6_init 54 = .ok (.aload_n 0, 1) := by decide +kernel
theorem dX6_init_55 : decode cX6_init 55 = .ok (.new 37, 3) := by decide +kernel
theorem dX6_init_58 : decode cX6_init 58 = .ok (.dup, 1) := by decide +kernel
theorem dX6_init_59 : decode cX6_init 59 = .ok (.invokespecial 39, 3) := by decide +kernel
theorem dX6_init_62 : decode cX6_init 62 = .ok (.putfield 40, 3) := by decide +kernel
theorem dX6_init_65 : decode cX6_init 65 = .ok (.aload_n 0, 1) := by decide +kernel
theorem dX6_init_66 : decode cX6_init 66 = .ok (.new 37, 3) := by decide +kernel
theorem dX6_init_69 : decode cX6_init 69 = .ok (.dup, 1) := by decide +kernel
theorem dX6_init_70 : decode cX6_init 70 = .ok (.invokespecial 39, 3) := by decide +kernel
theorem dX6_init_73 : decode cX6_init 73 = .ok (.putfield 44, 3) := by decide +kernel
theorem dX6_init_76 : decode cX6_init 76 = .ok (.iconst 0, 1) := by decide +kernel
theorem dX6_init_77 : decode cX6_init 77 = .ok (.istore_n 1, 1) := by decide +kernel
theorem dX6_init_78 : decode cX6_init 78 = .ok (.iload_n 1, 1) := by decide +kernel
theorem dX6_init_79 : decode cX6_init 79 = .ok (.bipush 10, 2) := by decide +kernel
theorem dX6_init_81 : decode cX6_init 81 = .ok (.if_icmp .ge 20, 3) := by decide +kernel
theorem dX6_init_84 : decode cX6_init 84 = .ok (.aload_n 0, 1) := by decide +kernel
theorem dX6_init_85 : decode cX6_init 85 = .ok (.getfield 30, 3) := by decide +kernel
theorem dX6_init_88 : decode cX6_init 88 = .ok (.iload_n 1, 1) := by decide +kernel
theorem dX6_init_89 : decode cX6_init 89 = .ok (.iconst 0, 1) := by decide +kernel
theorem dX6_init_90 : decode cX6_init 90 = .ok (.ldc 47, 2) := by decide +kernel
theorem dX6_init_92 : decode cX6_init 92 = .ok (.invokevirtual 48, 3) := by decide +kernel
theorem dX6_init_95 : decode cX6_init 95 = .ok (.iinc 1 1, 3) := by decide +kernel
theorem dX6_init_98 : decode cX6_init 98 = .ok (.goto (-20), 3) := by decide +kernel
theorem dX6_init_101 : decode cX6_init 101 = .ok (.return_, 1) := by decide +kernel
set_option maxRecDepth 20000 in
theorem ggX6_copyFrom_X3_copyFrom : GoodIn wsX6_copyFrom wsX3_copyFrom := goodIn_r _ [12, 13, 14, 15, 16, 17, 18, 19, 20, 21, 22, 23, 24, 25, 26, 27, 28, 29, 30, 56, 57, 58, 59, 60, 61] (by decide +kernel) (by decide +kernel)
set_option maxRecDepth 20000 in
theorem gX6_copyFrom_X3_copyFrom : GoodIn wsX6_copyFrom (wsV RX6 52 RX3 yX3_copyFrom wsX3_copyFrom) := goodIn_app (goodIn_of _ (by decide +kernel)) ggX6_copyFrom_X3_copyFrom
set_option maxRecDepth 20000 in
theorem ggX6_copyFrom_X2_copyFrom : GoodIn wsX6_copyFrom wsX2_copyFrom := goodIn_r _ [35, 36, 37, 38, 39, 18, 19, 20, 21, 22, 23, 24, 25, 26, 27, 28, 29, 30, 62, 63, 64, 60, 61] (by decide +kernel) (by decide +kernel)
set_option maxRecDepth 20000 in
theorem gX6_copyFrom_X2_copyFrom : GoodIn wsX6_copyFrom (wsV RX6 56 RX2 yX2_copyFrom wsX2_copyFrom) := goodIn_app (goodIn_of _ (by decide +kernel)) ggX6_copyFrom_X2_copyFrom
set_option maxRecDepth 20000 in
theorem ggX6_copyFrom_X7_copyFrom : GoodIn wsX6_copyFrom wsX7_copyFrom := goodIn_r _ [21, 22, 23, 24, 25, 26, 27, 28, 29, 30, 60, 61] (by decide +kernel) (by decide +kernel)
set_option maxRecDepth 20000 in
theorem gX6_copyFrom_X7_copyFrom : GoodIn wsX6_copyFrom (wsV RX6 59 RX7 yX7_copyFrom wsX7_copyFrom) := goodIn_app (goodIn_of _ (by decide +kernel)) ggX6_copyFrom_X7_copyFrom
set_option maxRecDepth 20000 in
theorem ggX6_copyFrom_X4_copyFrom : GoodIn wsX6_copyFrom wsX4_copyFrom := goodIn_r _ [45, 46, 47, 48, 9, 10, 11, 12, 13, 14, 15, 16, 17, 18, 19, 20, 21, 22, 23, 24, 25, 26, 27, 28, 29, 30, 65, 66, 56, 57, 58, 59, 60, 61] (by decide +kernel) (by decide +kernel)
set_option maxRecDepth 20000 in
theorem gX6_copyFrom_X4_copyFrom : GoodIn wsX6_copyFrom (wsV RX6 62 RX4 yX4_copyFrom wsX4_copyFrom) := goodIn_app (goodIn_of _ (by decide +kernel)) ggX6_copyFrom_X4_copyFrom
theorem dX6_copyFrom_0 : decode cX6_copyFrom 0 = .ok (.aload_n 0, 1) := by decide +kernel
theorem dX6_copyFrom_1 : decode cX6_copyFrom 1 = .ok (.getfield 12, 3) := by decide +kernel
theorem dX6_copyFrom_4 : decode cX6_copyFrom 4 = .ok (.aload_n 1, 1) := by decide +kernel
theorem dX6_copyFrom_5 : decode cX6_copyFrom 5 = .ok (.getfield 12, 3) := by decide +kernel
theorem dX6_copyFrom_8 : decode cX6_copyFrom 8 = .ok (.invokevirtual 52, 3) := by decide +kernel
theorem dX6_copyFrom_11 : decode cX6_copyFrom 11 = .ok (.aload_n 0, 1) := by decide +kernel
theorem dX6_copyFrom_12 : decode cX6_copyFrom 12 = .ok (.getfield 21, 3) := by decide +kernel
theorem dX6_copyFrom_15 : decode cX6_copyFrom 15 = .ok (.aload_n 1, 1) := by decide +kernel
theorem dX6_copyFrom_16 : decode cX6_copyFrom 16 = .ok (.getfield 21, 3) := by decide +kernel
theorem dX6_copyFrom_19 : decode cX6_copyFrom 19 = .ok (.invokevirtual 56, 3) := by decide +kernel
theorem dX6_copyFrom_22 : decode cX6_copyFrom 22 = .ok (.aload_n 0, 1) := by decide +kernel
theorem dX6_copyFrom_23 : decode cX6_copyFrom 23 = .ok (.getfield 30, 3) := by decide +kernel
theorem dX6_copyFrom_26 : decode cX6_copyFrom 26 = .ok (.aload_n 1, 1) := by decide +kernel
theorem dX6_copyFrom_27 : decode cX6_copyFrom 27 = .ok (.getfield 30, 3) := by decide +kernel
theorem dX6_copyFrom_30 : decode cX6_copyFrom 30 = .ok (.invokevirtual 59, 3) := by decide +kernel
theorem dX6_copyFrom_33 : decode cX6_copyFrom 33 = .ok (.aload_n 0, 1) := by decide +kernel
theorem dX6_copyFrom_34 : decode cX6_copyFrom 34 = .ok (.getfield 34, 3) := by decide +kernel
theorem dX6_copyFrom_37 : decode cX6_copyFrom 37 = .ok (.aload_n 1, 1) := by decide +kernel
theorem dX6_copyFrom_38 : decode cX6_copyFrom 38 = .ok (.getfield 34, 3) := by decide +kernel
theorem dX6_copyFrom_41 : decode cX6_copyFrom 41 = .ok (.invokevirtual 59, 3) := by decide +kernel
theorem dX6_copyFrom_44 : decode cX6_copyFrom 44 = .ok (.aload_n 0, 1) := by decide +kernel
theorem dX6_copyFrom_45 : decode cX6_copyFrom 45 = .ok (.getfield 40, 3) := by decide +kernel
theorem dX6_copyFrom_48 : decode cX6_copyFrom 48 = .ok (.aload_n 1, 1) := by decide +kernel
theorem dX6_copyFrom_49 : decode cX6_copyFrom 49 = .ok (.getfield 40, 3) := by decide +kernel
theorem dX6_copyFrom_52 : decode cX6_copyFrom 52 = .ok (.invokevirtual 62, 3) := by decide +kernel
theorem dX6_copyFrom_55 : decode cX6_copyFrom 55 = .ok (.aload_n 0, 1) := by decide +kernel
theorem dX6_copyFrom_56 : decode cX6_copyFrom 56 = .ok (.getfield 44, 3) := by decide +kernel
theorem dX6_copyFrom_59 : decode cX6_copyFrom 59 = .ok (.aload_n 1, 1) := by decide +kernel
theorem dX6_copyFrom_60 : decode cX6_copyFrom 60 = .ok (.getfield 44, 3) := by decide +kernel
theorem dX6_copyFrom_63 : decode cX6_copyFrom 63 = .ok (.invokevirtual 62, 3) := by decide +kernel
theorem dX6_copyFrom_66 : decode cX6_copyFrom 66 = .ok (.aload_n 0, 1) := by decide +kernel
theorem dX6_copyFrom_67 : decode cX6_copyFrom 67 = .ok (.aload_n 1, 1) := by decide +kernel
theorem dX6_copyFrom_68 : decode cX6_copyFrom 68 = .ok (.getfield 65, 3) := by decide +kernel
theorem dX6_copyFrom_71 : decode cX6_copyFrom 71 = .ok (.putfield 65, 3) := by decide +kernel
theorem dX6_copyFrom_74 : decode cX6_copyFrom 74 = .ok (.return_, 1) := by decide +kernel
set_option maxRecDepth 20000 in
theorem ggX6_time_X7_at : GoodIn wsX6_time wsX7_at := goodIn_r _ [6, 7, 8, 16, 17] (by decide +kernel) (by decide +kernel)
set_option maxRecDepth 20000 in
theorem gX6_time_X7_at : GoodIn wsX6_time (wsV RX6 69 RX7 yX7_at wsX7_at) := goodIn_app (goodIn_of _ (by decide +kernel)) ggX6_time_X7_at
theorem dX6_time_0 : decode cX6_time 0 = .ok (.aload_n 0, 1) := by decide +kernel
theorem dX6_time_1 : decode cX6_time 1 = .ok (.getfield 34, 3) := by decide +kernel
theorem dX6_time_4 : decode cX6_time 4 = .ok (.iconst 0, 1) := by decide +kernel
theorem dX6_time_5 : decode cX6_time 5 = .ok (.iconst 0, 1) := by decide +kernel
theorem dX6_time_6 : decode cX6_time 6 = .ok (.invokevirtual 69, 3) := by decide +kernel
theorem dX6_time_9 : decode cX6_time 9 = .ok (.aload_n 0, 1) := by decide +kernel
theorem dX6_time_10 : decode cX6_time 10 = .ok (.getfield 34, 3) := by decide +kernel
theorem dX6_time_13 : decode cX6_time 13 = .ok (.iconst 1, 1) := by decide +kernel
theorem dX6_time_14 : decode cX6_time 14 = .ok (.iconst 0, 1) := by decide +kernel
theorem dX6_time_15 : decode cX6_time 15 = .ok (.invokevirtual 69, 3) := by decide +kernel
theorem dX6_time_18 : decode cX6_time 18 = .ok (.iadd, 1) := by decide +kernel
theorem dX6_time_19 : decode cX6_time 19 = .ok (.aload_n 0, 1) := by decide +kernel
theorem dX6_time_20 : decode cX6_time 20 = .ok (.getfield 34, 3) := by decide +kernel
theorem dX6_time_23 : decode cX6_time 23 = .ok (.iconst 2, 1) := by decide +kernel
theorem dX6_time_24 : decode cX6_time 24 = .ok (.iconst 0, 1) := by decide +kernel
theorem dX6_time_25 : decode cX6_time 25 = .ok (.invokevirtual 69, 3) := by decide +kernel
theorem dX6_time_28 : decode cX6_time 28 = .ok (.iadd, 1) := by decide +kernel
theorem dX6_time_29 : decode cX6_time 29 = .ok (.aload_n 0, 1) := by decide +kernel
theorem dX6_time_30 : decode cX6_time 30 = .ok (.getfield 34, 3) := by decide +kernel
theorem dX6_time_33 : decode cX6_time 33 = .ok (.iconst 3, 1) := by decide +kernel
theorem dX6_time_34 : decode cX6_time 34 = .ok (.iconst 0, 1) := by decide +kernel
theorem dX6_time_35 : decode cX6_time 35 = .ok (.invokevirtual 69, 3) := by decide +kernel
theorem dX6_time_38 : decode cX6_time 38 = .ok (.iadd, 1) := by decide +kernel
theorem dX6_time_39 : decode cX6_time 39 = .ok (.ireturn, 1) := by decide +kernel
theorem dX6_snapshotAt_0 : decode cX6_snapshotAt 0 = .ok (.iload_n 1, 1) := by decide +kernel
theorem dX6_snapshotAt_1 : decode cX6_snapshotAt 1 = .ok (.ifCond .ne 10, 3) := by decide +kernel
theorem dX6_snapshotAt_4 : decode cX6_snapshotAt 4 = .ok (.aload_n 0, 1) := by decide +kernel
theorem dX6_snapshotAt_5 : decode cX6_snapshotAt 5 = .ok (.getfield 40, 3) := by decide +kernel
theorem dX6_snapshotAt_8 : decode cX6_snapshotAt 8 = .ok (.goto 7, 3) := by decide +kernel
theorem dX6_snapshotAt_11 : decode cX6_snapshotAt 11 = .ok (.aload_n 0, 1) := by decide +kernel
theorem dX6_snapshotAt_12 : decode cX6_snapshotAt 12 = .ok (.getfield 44, 3) := by decide +kernel
theorem dX6_snapshotAt_15 : decode cX6_snapshotAt 15 = .ok (.areturn, 1) := by decide +kernel
theorem dX6_snapshotsTaken_0 : decode cX6_snapshotsTaken 0 = .ok (.aload_n 0, 1) := by decide +kernel
theorem dX6_snapshotsTaken_1 : decode cX6_snapshotsTaken 1 = .ok (.getfield 40, 3) := by decide +kernel
theorem dX6_snapshotsTaken_4 : decode cX6_snapshotsTaken 4 = .ok (.getfield 73, 3) := by decide +kernel
theorem dX6_snapshotsTaken_7 : decode cX6_snapshotsTaken 7 = .ok (.ifCond .eq 7, 3) := by decide +kernel
theorem dX6_snapshotsTaken_10 : decode cX6_snapshotsTaken 10 = .ok (.iconst 1, 1) := by decide +kernel
theorem dX6_snapshotsTaken_11 : decode cX6_snapshotsTaken 11 = .ok (.goto 4, 3) := by decide +kernel
theorem dX6_snapshotsTaken_14 : decode cX6_snapshotsTaken 14 = .ok (.iconst 0, 1) := by decide +kernel
theorem dX6_snapshotsTaken_15 : decode cX6_snapshotsTaken 15 = .ok (.aload_n 0, 1) := by decide +kernel
theorem dX6_snapshotsTaken_16 : decode cX6_snapshotsTaken 16 = .ok (.getfield 44, 3) := by decide +kernel
theorem dX6_snapshotsTaken_19 : decode cX6_snapshotsTaken 19 = .ok (.getfield 73, 3) := by decide +kernel
theorem dX6_snapshotsTaken_22 : decode cX6_snapshotsTaken 22 = .ok (.ifCond .eq 7, 3) := by decide +kernel
theorem dX6_snapshotsTaken_25 : decode cX6_snapshotsTaken 25 = .ok (.iconst 1, 1) := by decide +kernel
theorem dX6_snapshotsTaken_26 : decode cX6_snapshotsTaken 26 = .ok (.goto 4, 3) := by decide +kernel
theorem dX6_snapshotsTaken_29 : decode cX6_snapshotsTaken 29 = .ok (.iconst 0, 1) := by decide +kernel
theorem dX6_snapshotsTaken_30 : decode cX6_snapshotsTaken 30 = .ok (.iadd, 1) := by decide +kernel
theorem dX6_snapshotsTaken_31 : decode cX6_snapshotsTaken 31 = .ok (.ireturn, 1) := by decide +kernel
set_option maxRecDepth 20000 in
theorem ggX6_addTo_X7_at : GoodIn wsX6_addTo wsX7_at := goodIn_r _ [6, 7, 8, 20, 21] (by decide +kernel) (by decide +kernel)
set_option maxRecDepth 20000 in
theorem gX6_addTo_X7_at : GoodIn wsX6_addTo (wsV RX6 69 RX7 yX7_at wsX7_at) := goodIn_app (goodIn_of _ (by decide +kernel)) ggX6_addTo_X7_at
set_option maxRecDepth 20000 in
theorem ggX6_addTo_X7_put : GoodIn wsX6_addTo wsX7_put := goodIn_r _ [12, 7, 8, 20, 21] (by decide +kernel) (by decide +kernel)
set_option maxRecDepth 20000 in
theorem gX6_addTo_X7_put : GoodIn wsX6_addTo (wsV RX6 48 RX7 yX7_put wsX7_put) := goodIn_app (goodIn_of _ (by decide +kernel)) ggX6_addTo_X7_put
theorem dX6_addTo_0 : decode cX6_addTo 0 = .ok (.aload_n 0, 1) := by decide +kernel
theorem dX6_addTo_1 : decode cX6_addTo 1 = .ok (.getfield 34, 3) := by decide +kernel
theorem dX6_addTo_4 : decode cX6_addTo 4 = .ok (.iload_n 1, 1) := by decide +kernel
theorem dX6_addTo_5 : decode cX6_addTo 5 = .ok (.iconst 0, 1) := by decide +kernel
theorem dX6_addTo_6 : decode cX6_addTo 6 = .ok (.aload_n 0, 1) := by decide +kernel
theorem dX6_addTo_7 : decode cX6_addTo 7 = .ok (.getfield 34, 3) := by decide +kernel
theorem dX6_addTo_10 : decode cX6_addTo 10 = .ok (.iload_n 1, 1) := by decide +kernel
theorem dX6_addTo_11 : decode cX6_addTo 11 = .ok (.iconst 0, 1) := by decide +kernel
theorem dX6_addTo_12 : decode cX6_addTo 12 = .ok (.invokevirtual 69, 3) := by decide +kernel
theorem dX6_addTo_15 : decode cX6_addTo 15 = .ok (.iload_n 2, 1) := by decide +kernel
theorem dX6_addTo_16 : decode cX6_addTo 16 = .ok (.iadd, 1) := by decide +kernel
theorem dX6_addTo_17 : decode cX6_addTo 17 = .ok (.invokevirtual 48, 3) := by decide +kernel
theorem dX6_addTo_20 : decode cX6_addTo 20 = .ok (.return_, 1) := by decide +kernel
set_option maxRecDepth 20000 in
theorem ggX6_book_X2_add : GoodIn wsX6_book wsX2_add := goodIn_r _ [15, 16, 17, 18, 19, 20, 21, 22, 23, 7, 24, 25, 26, 27, 28, 29, 30, 31, 32, 33, 34, 35, 36, 37, 38, 65, 66, 67, 60, 61, 62, 63, 64, 68, 69] (by decide +kernel) (by decide +kernel)
set_option maxRecDepth 20000 in
theorem gX6_book_X2_add : GoodIn wsX6_book (wsV RX6 77 RX2 yX2_add wsX2_add) := goodIn_app (goodIn_of _ (by decide +kernel)) ggX6_book_X2_add
set_option maxRecDepth 20000 in
theorem ggX6_book_X7_put : GoodIn wsX6_book wsX7_put := goodIn_r _ [29, 30, 31, 68, 69] (by decide +kernel) (by decide +kernel)
set_option maxRecDepth 20000 in
theorem gX6_book_X7_put : GoodIn wsX6_book (wsV RX6 48 RX7 yX7_put wsX7_put) := goodIn_app (goodIn_of _ (by decide +kernel)) ggX6_book_X7_put
set_option maxRecDepth 20000 in
theorem ggX6_book_X6_slotAccountOf : GoodIn wsX6_book wsX6_slotAccountOf := goodIn_r _ [43] (by decide +kernel) (by decide +kernel)
set_option maxRecDepth 20000 in
theorem gX6_book_X6_slotAccountOf : GoodIn wsX6_book (va_wsS RX6 87 yX6_slotAccountOf wsX6_slotAccountOf) := goodIn_app (goodIn_of _ (by decide +kernel)) ggX6_book_X6_slotAccountOf
set_option maxRecDepth 20000 in
theorem ggX6_book_X6_addTo : GoodIn wsX6_book wsX6_addTo := goodIn_r _ [47, 48, 49, 50, 51, 28, 52, 30, 31, 39, 26, 27, 29, 53, 54, 55, 56, 57, 58, 59, 68, 69] (by decide +kernel) (by decide +kernel)
set_option maxRecDepth 20000 in
theorem gX6_book_X6_addTo : GoodIn wsX6_book (wsV RX6 91 RX6 yX6_addTo wsX6_addTo) := goodIn_app (goodIn_of _ (by decide +kernel)) ggX6_book_X6_addTo
theorem dX6_book_0 : decode cX6_book 0 = .ok (.aload_n 0, 1) := by decide +kernel
theorem dX6_book_1 : decode cX6_book 1 = .ok (.getfield 21, 3) := by decide +kernel
theorem dX6_book_4 : decode cX6_book 4 = .ok (.iload_n 1, 1) := by decide +kernel
theorem dX6_book_5 : decode cX6_book 5 = .ok (.aload_n 3, 1) := by decide +kernel
theorem dX6_book_6 : decode cX6_book 6 = .ok (.invokevirtual 77, 3) := by decide +kernel
theorem dX6_book_9 : decode cX6_book 9 = .ok (.aload_n 0, 1) := by decide +kernel
theorem dX6_book_10 : decode cX6_book 10 = .ok (.getfield 30, 3) := by decide +kernel
theorem dX6_book_13 : decode cX6_book 13 = .ok (.iload_n 1, 1) := by decide +kernel
theorem dX6_book_14 : decode cX6_book 14 = .ok (.iconst 0, 1) := by decide +kernel
theorem dX6_book_15 : decode cX6_book 15 = .ok (.aload_n 3, 1) := by decide +kernel
theorem dX6_book_16 : decode cX6_book 16 = .ok (.getfield 81, 3) := by decide +kernel
theorem dX6_book_19 : decode cX6_book 19 = .ok (.invokevirtual 48, 3) := by decide +kernel
theorem dX6_book_22 : decode cX6_book 22 = .ok (.aload_n 0, 1) := by decide +kernel
theorem dX6_book_23 : decode cX6_book 23 = .ok (.iload_n 1, 1) := by decide +kernel
theorem dX6_book_24 : decode cX6_book 24 = .ok (.invokestatic 87, 3) := by decide +kernel
theorem dX6_book_27 : decode cX6_book 27 = .ok (.iload_n 2, 1) := by decide +kernel
theorem dX6_book_28 : decode cX6_book 28 = .ok (.invokevirtual 91, 3) := by decide +kernel
theorem dX6_book_31 : decode cX6_book 31 = .ok (.aload_n 0, 1) := by decide +kernel
theorem dX6_book_32 : decode cX6_book 32 = .ok (.iconst 4, 1) := by decide +kernel
theorem dX6_book_33 : decode cX6_book 33 = .ok (.iconst 1, 1) := by decide +kernel
theorem dX6_book_34 : decode cX6_book 34 = .ok (.invokevirtual 91, 3) := by decide +kernel
theorem dX6_book_37 : decode cX6_book 37 = .ok (.aload_n 0, 1) := by decide +kernel
theorem dX6_book_38 : decode cX6_book 38 = .ok (.iconst 5, 1) := by decide +kernel
theorem dX6_book_39 : decode cX6_book 39 = .ok (.aload_n 3, 1) := by decide +kernel
theorem dX6_book_40 : decode cX6_book 40 = .ok (.getfield 94, 3) := by decide +kernel
theorem dX6_book_43 : decode cX6_book 43 = .ok (.invokestatic 97, 3) := by decide +kernel
theorem dX6_book_46 : decode cX6_book 46 = .ok (.invokevirtual 91, 3) := by decide +kernel
theorem dX6_book_49 : decode cX6_book 49 = .ok (.aload_n 0, 1) := by decide +kernel
theorem dX6_book_50 : decode cX6_book 50 = .ok (.aload_n 3, 1) := by decide +kernel
theorem dX6_book_51 : decode cX6_book 51 = .ok (.getfield 102, 3) := by decide +kernel
theorem dX6_book_54 : decode cX6_book 54 = .ok (.putfield 65, 3) := by decide +kernel
theorem dX6_book_57 : decode cX6_book 57 = .ok (.return_, 1) := by decide +kernel
theorem dX6_slotAccountOf_0 : decode cX6_slotAccountOf 0 = .ok (.iload_n 0, 1) := by decide +kernel
theorem dX6_slotAccountOf_1 : decode cX6_slotAccountOf 1 = .ok (.lookupswitch 31 #[(8, 27), (9, 29)], 27) := by decide +kernel
theorem dX6_slotAccountOf_28 : decode cX6_slotAccountOf 28 = .ok (.iconst 1, 1) := by decide +kernel
theorem dX6_slotAccountOf_29 : decode cX6_slotAccountOf 29 = .ok (.ireturn, 1) := by decide +kernel
theorem dX6_slotAccountOf_30 : decode cX6_slotAccountOf 30 = .ok (.iconst 2, 1) := by decide +kernel
theorem dX6_slotAccountOf_31 : decode cX6_slotAccountOf 31 = .ok (.ireturn, 1) := by decide +kernel
theorem dX6_slotAccountOf_32 : decode cX6_slotAccountOf 32 = .ok (.iconst 0, 1) := by decide +kernel
theorem dX6_slotAccountOf_33 : decode cX6_slotAccountOf 33 = .ok (.ireturn, 1) := by decide +kernel
set_option maxRecDepth 20000 in
theorem ggX6_correctedReading_X7_at : GoodIn wsX6_correctedReading wsX7_at := goodIn_r _ [8, 9, 10, 29, 30] (by decide +kernel) (by decide +kernel)
set_option maxRecDepth 20000 in
theorem gX6_correctedReading_X7_at : GoodIn wsX6_correctedReading (wsV RX6 69 RX7 yX7_at wsX7_at) := goodIn_app (goodIn_of _ (by decide +kernel)) ggX6_correctedReading_X7_at
set_option maxRecDepth 20000 in
theorem ggX6_correctedReading_X3_setting : GoodIn wsX6_correctedReading wsX3_setting := goodIn_r _ [15, 16, 17, 5, 6, 7, 8, 9, 10, 31, 32, 33, 34, 29, 30] (by decide +kernel) (by decide +kernel)
set_option maxRecDepth 20000 in
theorem gX6_correctedReading_X3_setting : GoodIn wsX6_correctedReading (wsV RX6 103 RX3 yX3_setting wsX3_setting) := goodIn_app (goodIn_of _ (by decide +kernel)) ggX6_correctedReading_X3_setting
set_option maxRecDepth 20000 in
theorem ggX6_correctedReading_J9_floorDiv_7cf53 : GoodIn wsX6_correctedReading wsJ9_floorDiv_7cf53 := goodIn_r _ [21] (by decide +kernel) (by decide +kernel)
set_option maxRecDepth 20000 in
theorem gX6_correctedReading_J9_floorDiv_7cf53 : GoodIn wsX6_correctedReading (va_wsS RX6 106 yJ9_floorDiv_7cf53 wsJ9_floorDiv_7cf53) := goodIn_app (goodIn_of _ (by decide +kernel)) ggX6_correctedReading_J9_floorDiv_7cf53
theorem dX6_correctedReading_0 : decode cX6_correctedReading 0 = .ok (.aload_n 0, 1) := by decide +kernel
theorem dX6_correctedReading_1 : decode cX6_correctedReading 1 = .ok (.getfield 30, 3) := by decide +kernel
theorem dX6_correctedReading_4 : decode cX6_correctedReading 4 = .ok (.iload_n 1, 1) := by decide +kernel
theorem dX6_correctedReading_5 : decode cX6_correctedReading 5 = .ok (.iconst 0, 1) := by decide +kernel
theorem dX6_correctedReading_6 : decode cX6_correctedReading 6 = .ok (.invokevirtual 69, 3) := by decide +kernel
theorem dX6_correctedReading_9 : decode cX6_correctedReading 9 = .ok (.istore_n 2, 1) := by decide +kernel
theorem dX6_correctedReading_10 : decode cX6_correctedReading 10 = .ok (.aload_n 0, 1) := by decide +kernel
theorem dX6_correctedReading_11 : decode cX6_correctedReading 11 = .ok (.getfield 30, 3) := by decide +kernel
theorem dX6_correctedReading_14 : decode cX6_correctedReading 14 = .ok (.bipush 8, 2) := by decide +kernel
theorem dX6_correctedReading_16 : decode cX6_correctedReading 16 = .ok (.iconst 0, 1) := by decide +kernel
theorem dX6_correctedReading_17 : decode cX6_correctedReading 17 = .ok (.invokevirtual 69, 3) := by decide +kernel
theorem dX6_correctedReading_20 : decode cX6_correctedReading 20 = .ok (.istore_n 3, 1) := by decide +kernel
theorem dX6_correctedReading_21 : decode cX6_correctedReading 21 = .ok (.aload_n 0, 1) := by decide +kernel
theorem dX6_correctedReading_22 : decode cX6_correctedReading 22 = .ok (.getfield 30, 3) := by decide +kernel
theorem dX6_correctedReading_25 : decode cX6_correctedReading 25 = .ok (.bipush 9, 2) := by decide +kernel
theorem dX6_correctedReading_27 : decode cX6_correctedReading 27 = .ok (.iconst 0, 1) := by decide +kernel
theorem dX6_correctedReading_28 : decode cX6_correctedReading 28 = .ok (.invokevirtual 69, 3) := by decide +kernel
theorem dX6_correctedReading_31 : decode cX6_correctedReading 31 = .ok (.istore 4, 2) := by decide +kernel
theorem dX6_correctedReading_33 : decode cX6_correctedReading 33 = .ok (.iload_n 2, 1) := by decide +kernel
theorem dX6_correctedReading_34 : decode cX6_correctedReading 34 = .ok (.ldc 47, 2) := by decide +kernel
theorem dX6_correctedReading_36 : decode cX6_correctedReading 36 = .ok (.if_icmp .eq 22, 3) := by decide +kernel
theorem dX6_correctedReading_39 : decode cX6_correctedReading 39 = .ok (.iload_n 3, 1) := by decide +kernel
theorem dX6_correctedReading_40 : decode cX6_correctedReading 40 = .ok (.ldc 47, 2) := by decide +kernel
theorem dX6_correctedReading_42 : decode cX6_correctedReading 42 = .ok (.if_icmp .eq 16, 3) := by decide +kernel
theorem dX6_correctedReading_45 : decode cX6_correctedReading 45 = .ok (.iload 4, 2) := by decide +kernel
theorem dX6_correctedReading_47 : decode cX6_correctedReading 47 = .ok (.ldc 47, 2) := by decide +kernel
theorem dX6_correctedReading_49 : decode cX6_correctedReading 49 = .ok (.if_icmp .eq 9, 3) := by decide +kernel
theorem dX6_correctedReading_52 : decode cX6_correctedReading 52 = .ok (.iload 4, 2) := by decide +kernel
theorem dX6_correctedReading_54 : decode cX6_correctedReading 54 = .ok (.iload_n 3, 1) := by decide +kernel
theorem dX6_correctedReading_55 : decode cX6_correctedReading 55 = .ok (.if_icmp .gt 6, 3) := by decide +kernel
theorem dX6_correctedReading_58 : decode cX6_correctedReading 58 = .ok (.ldc 47, 2) := by decide +kernel
theorem dX6_correctedReading_60 : decode cX6_correctedReading 60 = .ok (.ireturn, 1) := by decide +kernel
theorem dX6_correctedReading_61 : decode cX6_correctedReading 61 = .ok (.iload_n 2, 1) := by decide +kernel
theorem dX6_correctedReading_62 : decode cX6_correctedReading 62 = .ok (.iload_n 3, 1) := by decide +kernel
theorem dX6_correctedReading_63 : decode cX6_correctedReading 63 = .ok (.isub, 1) := by decide +kernel
theorem dX6_correctedReading_64 : decode cX6_correctedReading 64 = .ok (.aload_n 0, 1) := by decide +kernel
theorem dX6_correctedReading_65 : decode cX6_correctedReading 65 = .ok (.getfield 12, 3) := by decide +kernel
theorem dX6_correctedReading_68 : decode cX6_correctedReading 68 = .ok (.iconst 0, 1) := by decide +kernel
theorem dX6_correctedReading_69 : decode cX6_correctedReading 69 = .ok (.invokevirtual 103, 3) := by decide +kernel
theorem dX6_correctedReading_72 : decode cX6_correctedReading 72 = .ok (.imul, 1) := by decide +kernel
theorem dX6_correctedReading_73 : decode cX6_correctedReading 73 = .ok (.iload 4, 2) := by decide +kernel
theorem dX6_correctedReading_75 : decode cX6_correctedReading 75 = .ok (.iload_n 3, 1) := by decide +kernel
theorem dX6_correctedReading_76 : decode cX6_correctedReading 76 = .ok (.isub, 1) := by decide +kernel
theorem dX6_correctedReading_77 : decode cX6_correctedReading 77 = .ok (.invokestatic 106, 3) := by decide +kernel
theorem dX6_correctedReading_80 : decode cX6_correctedReading 80 = .ok (.ireturn, 1) := by decide +kernel
theorem dX7_init_0 : decode cX7_init 0 = .ok (.aload_n 0, 1) := by decide +kernel
theorem dX7_init_1 : decode cX7_init 1 = .ok (.invokespecial 1, 3) := by decide +kernel
theorem dX7_init_4 : decode cX7_init 4 = .ok (.aload_n 0, 1) := by decide +kernel
theorem dX7_init_5 : decode cX7_init 5 = .ok (.iconst 1, 1) := by decide +kernel
theorem dX7_init_6 : decode cX7_init 6 = .ok (.iload_n 2, 1) := by decide +kernel
theorem dX7_init_7 : decode cX7_init 7 = .ok (.invokestatic 7, 3) := by decide +kernel
theorem dX7_init_10 : decode cX7_init 10 = .ok (.putfield 13, 3) := by decide +kernel
theorem dX7_init_13 : decode cX7_init 13 = .ok (.aload_n 0, 1) := by decide +kernel
theorem dX7_init_14 : decode cX7_init 14 = .ok (.iconst 1, 1) := by decide +kernel
theorem dX7_init_15 : decode cX7_init 15 = .ok (.iload_n 1, 1) := by decide +kernel
theorem dX7_init_16 : decode cX7_init 16 = .ok (.invokestatic 7, 3) := by decide +kernel
theorem dX7_init_19 : decode cX7_init 19 = .ok (.iconst 1, 1) := by decide +kernel
theorem dX7_init_20 : decode cX7_init 20 = .ok (.iload_n 2, 1) := by decide +kernel
theorem dX7_init_21 : decode cX7_init 21 = .ok (.invokestatic 7, 3) := by decide +kernel
theorem dX7_init_24 : decode cX7_init 24 = .ok (.imul, 1) := by decide +kernel
theorem dX7_init_25 : decode cX7_init 25 = .ok (.newarray .int, 2) := by decide +kernel
theorem dX7_init_27 : decode cX7_init 27 = .ok (.putfield 19, 3) := by decide +kernel
theorem dX7_init_30 : decode cX7_init 30 = .ok (.return_, 1) := by decide +kernel
theorem dX7_at_0 : decode cX7_at 0 = .ok (.iload_n 1, 1) := by decide +kernel
theorem dX7_at_1 : decode cX7_at 1 = .ok (.aload_n 0, 1) := by decide +kernel
theorem dX7_at_2 : decode cX7_at 2 = .ok (.getfield 13, 3) := by decide +kernel
theorem dX7_at_5 : decode cX7_at 5 = .ok (.imul, 1) := by decide +kernel
theorem dX7_at_6 : decode cX7_at 6 = .ok (.iload_n 2, 1) := by decide +kernel
theorem dX7_at_7 : decode cX7_at 7 = .ok (.iadd, 1) := by decide +kernel
theorem dX7_at_8 : decode cX7_at 8 = .ok (.istore_n 3, 1) := by decide +kernel
theorem dX7_at_9 : decode cX7_at 9 = .ok (.iload_n 3, 1) := by decide +kernel
theorem dX7_at_10 : decode cX7_at 10 = .ok (.ifCond .lt 21, 3) := by decide +kernel
theorem dX7_at_13 : decode cX7_at 13 = .ok (.iload_n 3, 1) := by decide +kernel
theorem dX7_at_14 : decode cX7_at 14 = .ok (.aload_n 0, 1) := by decide +kernel
theorem dX7_at_15 : decode cX7_at 15 = .ok (.getfield 19, 3) := by decide +kernel
theorem dX7_at_18 : decode cX7_at 18 = .ok (.arraylength, 1) := by decide +kernel
theorem dX7_at_19 : decode cX7_at 19 = .ok (.if_icmp .ge 12, 3) := by decide +kernel
theorem dX7_at_22 : decode cX7_at 22 = .ok (.aload_n 0, 1) := by decide +kernel
theorem dX7_at_23 : decode cX7_at 23 = .ok (.getfield 19, 3) := by decide +kernel
theorem dX7_at_26 : decode cX7_at 26 = .ok (.iload_n 3, 1) := by decide +kernel
theorem dX7_at_27 : decode cX7_at 27 = .ok (.iaload, 1) := by decide +kernel
theorem dX7_at_28 : decode cX7_at 28 = .ok (.goto 4, 3) := by decide +kernel
theorem dX7_at_31 : decode cX7_at 31 = .ok (.iconst 0, 1) := by decide +kernel
theorem dX7_at_32 : decode cX7_at 32 = .ok (.ireturn, 1) := by decide +kernel
theorem dX7_put_0 : decode cX7_put 0 = .ok (.iload_n 1, 1) := by decide +kernel
theorem dX7_put_1 : decode cX7_put 1 = .ok (.aload_n 0, 1) := by decide +kernel
theorem dX7_put_2 : decode cX7_put 2 = .ok (.getfield 13, 3) := by decide +kernel
theorem dX7_put_5 : decode cX7_put 5 = .ok (.imul, 1) := by decide +kernel
theorem dX7_put_6 : decode cX7_put 6 = .ok (.iload_n 2, 1) := by decide +kernel
theorem dX7_put_7 : decode cX7_put 7 = .ok (.iadd, 1) := by decide +kernel
theorem dX7_put_8 : decode cX7_put 8 = .ok (.istore 4, 2) := by decide +kernel
theorem dX7_put_10 : decode cX7_put 10 = .ok (.iload 4, 2) := by decide +kernel
theorem dX7_put_12 : decode cX7_put 12 = .ok (.ifCond .lt 21, 3) := by decide +kernel
theorem dX7_put_15 : decode cX7_put 15 = .ok (.iload 4, 2) := by decide +kernel
theorem dX7_put_17 : decode cX7_put 17 = .ok (.aload_n 0, 1) := by decide +kernel
theorem dX7_put_18 : decode cX7_put 18 = .ok (.getfield 19, 3) := by decide +kernel
theorem dX7_put_21 : decode cX7_put 21 = .ok (.arraylength, 1) := by decide +kernel
theorem dX7_put_22 : decode cX7_put 22 = .ok (.if_icmp .ge 11, 3) := by decide +kernel
theorem dX7_put_25 : decode cX7_put 25 = .ok (.aload_n 0, 1) := by decide +kernel
theorem dX7_put_26 : decode cX7_put 26 = .ok (.getfield 19, 3) := by decide +kernel
theorem dX7_put_29 : decode cX7_put 29 = .ok (.iload 4, 2) := by decide +kernel
theorem dX7_put_31 : decode cX7_put 31 = .ok (.iload_n 3, 1) := by decide +kernel
theorem dX7_put_32 : decode cX7_put 32 = .ok (.iastore, 1) := by decide +kernel
theorem dX7_put_33 : decode cX7_put 33 = .ok (.return_, 1) := by decide +kernel
set_option maxRecDepth 20000 in
theorem ggX7_copyRow_X7_at : GoodIn wsX7_copyRow wsX7_at := goodIn_r _ [6, 1, 7, 12, 13] (by decide +kernel) (by decide +kernel)
set_option maxRecDepth 20000 in
theorem gX7_copyRow_X7_at : GoodIn wsX7_copyRow (wsV RX7 23 RX7 yX7_at wsX7_at) := goodIn_app (goodIn_of _ (by decide +kernel)) ggX7_copyRow_X7_at
set_option maxRecDepth 20000 in
theorem ggX7_copyRow_X7_put : GoodIn wsX7_copyRow wsX7_put := goodIn_r _ [11, 1, 7, 12, 13] (by decide +kernel) (by decide +kernel)
set_option maxRecDepth 20000 in
theorem gX7_copyRow_X7_put : GoodIn wsX7_copyRow (wsV RX7 26 RX7 yX7_put wsX7_put) := goodIn_app (goodIn_of _ (by decide +kernel)) ggX7_copyRow_X7_put
theorem dX7_copyRow_0 : decode cX7_copyRow 0 = .ok (.iconst 0, 1) := by decide +kernel
theorem dX7_copyRow_1 : decode cX7_copyRow 1 = .ok (.istore_n 3, 1) := by decide +kernel
theorem dX7_copyRow_2 : decode cX7_copyRow 2 = .ok (.iload_n 3, 1) := by decide +kernel
theorem dX7_copyRow_3 : decode cX7_copyRow 3 = .ok (.aload_n 0, 1) := by decide +kernel
theorem dX7_copyRow_4 : decode cX7_copyRow 4 = .ok (.getfield 13, 3) := by decide +kernel
theorem dX7_copyRow_7 : decode cX7_copyRow 7 = .ok (.if_icmp .ge 21, 3) := by decide +kernel
theorem dX7_copyRow_10 : decode cX7_copyRow 10 = .ok (.aload_n 0, 1) := by decide +kernel
theorem dX7_copyRow_11 : decode cX7_copyRow 11 = .ok (.iload_n 2, 1) := by decide +kernel
theorem dX7_copyRow_12 : decode cX7_copyRow 12 = .ok (.iload_n 3, 1) := by decide +kernel
theorem dX7_copyRow_13 : decode cX7_copyRow 13 = .ok (.aload_n 0, 1) := by decide +kernel
theorem dX7_copyRow_14 : decode cX7_copyRow 14 = .ok (.iload_n 1, 1) := by decide +kernel
theorem dX7_copyRow_15 : decode cX7_copyRow 15 = .ok (.iload_n 3, 1) := by decide +kernel
theorem dX7_copyRow_16 : decode cX7_copyRow 16 = .ok (.invokevirtual 23, 3) := by decide +kernel
theorem dX7_copyRow_19 : decode cX7_copyRow 19 = .ok (.invokevirtual 26, 3) := by decide +kernel
theorem dX7_copyRow_22 : decode cX7_copyRow 22 = .ok (.iinc 3 1, 3) := by decide +kernel
theorem dX7_copyRow_25 : decode cX7_copyRow 25 = .ok (.goto (-23), 3) := by decide +kernel
theorem dX7_copyRow_28 : decode cX7_copyRow 28 = .ok (.return_, 1) := by decide +kernel
theorem dX7_copyFrom_0 : decode cX7_copyFrom 0 = .ok (.aload_n 1, 1) := by decide +kernel
theorem dX7_copyFrom_1 : decode cX7_copyFrom 1 = .ok (.getfield 19, 3) := by decide +kernel
theorem dX7_copyFrom_4 : decode cX7_copyFrom 4 = .ok (.iconst 0, 1) := by decide +kernel
theorem dX7_copyFrom_5 : decode cX7_copyFrom 5 = .ok (.aload_n 0, 1) := by decide +kernel
theorem dX7_copyFrom_6 : decode cX7_copyFrom 6 = .ok (.getfield 19, 3) := by decide +kernel
theorem dX7_copyFrom_9 : decode cX7_copyFrom 9 = .ok (.iconst 0, 1) := by decide +kernel
theorem dX7_copyFrom_10 : decode cX7_copyFrom 10 = .ok (.aload_n 1, 1) := by decide +kernel
theorem dX7_copyFrom_11 : decode cX7_copyFrom 11 = .ok (.getfield 19, 3) := by decide +kernel
theorem dX7_copyFrom_14 : decode cX7_copyFrom 14 = .ok (.arraylength, 1) := by decide +kernel
theorem dX7_copyFrom_15 : decode cX7_copyFrom 15 = .ok (.aload_n 0, 1) := by decide +kernel
theorem dX7_copyFrom_16 : decode cX7_copyFrom 16 = .ok (.getfield 19, 3) := by decide +kernel
theorem dX7_copyFrom_19 : decode cX7_copyFrom 19 = .ok (.arraylength, 1) := by decide +kernel
theorem dX7_copyFrom_20 : decode cX7_copyFrom 20 = .ok (.invokestatic 30, 3) := by decide +kernel
theorem dX7_copyFrom_23 : decode cX7_copyFrom 23 = .ok (.invokestatic 33, 3) := by decide +kernel
theorem dX7_copyFrom_26 : decode cX7_copyFrom 26 = .ok (.return_, 1) := by decide +kernel
theorem dX8_init_0 : decode cX8_init 0 = .ok (.aload_n 0, 1) := by decide +kernel
theorem dX8_init_1 : decode cX8_init 1 = .ok (.invokespecial 3, 3) := by decide +kernel
theorem dX8_init_4 : decode cX8_init 4 = .ok (.aload_n 0, 1) := by decide +kernel
theorem dX8_init_5 : decode cX8_init 5 = .ok (.sipush 140, 3) := by decide +kernel
theorem dX8_init_8 : decode cX8_init 8 = .ok (.newarray .char, 2) := by decide +kernel
theorem dX8_init_10 : decode cX8_init 10 = .ok (.putfield 9, 3) := by decide +kernel
theorem dX8_init_13 : decode cX8_init 13 = .ok (.return_, 1) := by decide +kernel
theorem dX8_characterAt_0 : decode cX8_characterAt 0 = .ok (.iload_n 1, 1) := by decide +kernel
theorem dX8_characterAt_1 : decode cX8_characterAt 1 = .ok (.ifCond .lt 24, 3) := by decide +kernel
theorem dX8_characterAt_4 : decode cX8_characterAt 4 = .ok (.iload_n 1, 1) := by decide +kernel
theorem dX8_characterAt_5 : decode cX8_characterAt 5 = .ok (.aload_n 0, 1) := by decide +kernel
theorem dX8_characterAt_6 : decode cX8_characterAt 6 = .ok (.getfield 15, 3) := by decide +kernel
theorem dX8_characterAt_9 : decode cX8_characterAt 9 = .ok (.if_icmp .ge 16, 3) := by decide +kernel
theorem dX8_characterAt_12 : decode cX8_characterAt 12 = .ok (.iload_n 1, 1) := by decide +kernel
theorem dX8_characterAt_13 : decode cX8_characterAt 13 = .ok (.aload_n 0, 1) := by decide +kernel
theorem dX8_characterAt_14 : decode cX8_characterAt 14 = .ok (.getfield 9, 3) := by decide +kernel
theorem dX8_characterAt_17 : decode cX8_characterAt 17 = .ok (.arraylength, 1) := by decide +kernel
theorem dX8_characterAt_18 : decode cX8_characterAt 18 = .ok (.if_icmp .ge 7, 3) := by decide +kernel
theorem dX8_characterAt_21 : decode cX8_characterAt 21 = .ok (.iconst 1, 1) := by decide +kernel
theorem dX8_characterAt_22 : decode cX8_characterAt 22 = .ok (.goto 4, 3) := by decide +kernel
theorem dX8_characterAt_25 : decode cX8_characterAt 25 = .ok (.iconst 0, 1) := by decide +kernel
theorem dX8_characterAt_26 : decode cX8_characterAt 26 = .ok (.istore_n 2, 1) := by decide +kernel
theorem dX8_characterAt_27 : decode cX8_characterAt 27 = .ok (.iload_n 2, 1) := by decide +kernel
theorem dX8_characterAt_28 : decode cX8_characterAt 28 = .ok (.ifCond .eq 12, 3) := by decide +kernel
theorem dX8_characterAt_31 : decode cX8_characterAt 31 = .ok (.aload_n 0, 1) := by decide +kernel
theorem dX8_characterAt_32 : decode cX8_characterAt 32 = .ok (.getfield 9, 3) := by decide +kernel
theorem dX8_characterAt_35 : decode cX8_characterAt 35 = .ok (.iload_n 1, 1) := by decide +kernel
theorem dX8_characterAt_36 : decode cX8_characterAt 36 = .ok (.caload, 1) := by decide +kernel
theorem dX8_characterAt_37 : decode cX8_characterAt 37 = .ok (.goto 4, 3) := by decide +kernel
theorem dX8_characterAt_40 : decode cX8_characterAt 40 = .ok (.iconst 0, 1) := by decide +kernel
theorem dX8_characterAt_41 : decode cX8_characterAt 41 = .ok (.ireturn, 1) := by decide +kernel
set_option maxRecDepth 20000 in
theorem ggX9_init_X8_init : GoodIn wsX9_init wsX8_init := goodIn_r _ [13, 14, 2, 3, 15, 16, 42, 43] (by decide +kernel) (by decide +kernel)
set_option maxRecDepth 20000 in
theorem gX9_init_X8_init_n11 : GoodIn wsX9_init (wsX8_init) := ggX9_init_X8_init
set_option maxRecDepth 20000 in
theorem ggX9_init_X3_init : GoodIn wsX9_init wsX3_init := goodIn_r _ [19, 20, 2, 3, 21, 22, 23, 24, 25, 26, 27, 28, 29, 30, 31, 32, 33, 34, 35, 36, 37, 38, 39, 40, 41, 52, 53, 48, 49, 50, 51] (by decide +kernel) (by decide +kernel)
set_option maxRecDepth 20000 in
theorem gX9_init_X3_init : GoodIn wsX9_init (wsX3_init) := ggX9_init_X3_init
theorem dX9_init_0 : decode cX9_init 0 = .ok (.aload_n 0, 1) := by decide +kernel
theorem dX9_init_1 : decode cX9_init 1 = .ok (.invokespecial 3, 3) := by decide +kernel
theorem dX9_init_4 : decode cX9_init 4 = .ok (.aload_n 0, 1) := by decide +kernel
theorem dX9_init_5 : decode cX9_init 5 = .ok (.new 9, 3) := by decide +kernel
theorem dX9_init_8 : decode cX9_init 8 = .ok (.dup, 1) := by decide +kernel
theorem dX9_init_9 : decode cX9_init 9 = .ok (.invokespecial 11, 3) := by decide +kernel
theorem dX9_init_12 : decode cX9_init 12 = .ok (.putfield 12, 3) := by decide +kernel
theorem dX9_init_15 : decode cX9_init 15 = .ok (.aload_n 0, 1) := by decide +kernel
theorem dX9_init_16 : decode cX9_init 16 = .ok (.new 18, 3) := by decide +kernel
theorem dX9_init_19 : decode cX9_init 19 = .ok (.dup, 1) := by decide +kernel
theorem dX9_init_20 : decode cX9_init 20 = .ok (.invokespecial 20, 3) := by decide +kernel
theorem dX9_init_23 : decode cX9_init 23 = .ok (.putfield 21, 3) := by decide +kernel
theorem dX9_init_26 : decode cX9_init 26 = .ok (.return_, 1) := by decide +kernel
set_option maxRecDepth 20000 in
theorem ggX9_readItems_X3_copyFrom : GoodIn wsX9_readItems wsX3_copyFrom := goodIn_r _ [8, 9, 10, 11, 12, 13, 14, 15, 16, 17, 18, 19, 20, 21, 22, 23, 24, 25, 26, 108, 109, 110, 111, 112, 113] (by decide +kernel) (by decide +kernel)
set_option maxRecDepth 20000 in
theorem gX9_readItems_X3_copyFrom : GoodIn wsX9_readItems (wsV RX9 25 RX3 yX3_copyFrom wsX3_copyFrom) := goodIn_app (goodIn_of _ (by decide +kernel)) ggX9_readItems_X3_copyFrom
set_option maxRecDepth 20000 in
theorem ggX9_readItems_X9_hasFailed : GoodIn wsX9_readItems wsX9_hasFailed := goodIn_r _ [31, 3, 104, 105, 106, 107] (by decide +kernel) (by decide +kernel)
set_option maxRecDepth 20000 in
theorem gX9_readItems_X9_hasFailed : GoodIn wsX9_readItems (wsV RX9 36 RX9 yX9_hasFailed wsX9_hasFailed) := goodIn_app (goodIn_of _ (by decide +kernel)) ggX9_readItems_X9_hasFailed
set_option maxRecDepth 20000 in
theorem ggX9_readItems_X9_next : GoodIn wsX9_readItems wsX9_next := goodIn_r _ [35, 2, 36, 37, 38, 39, 40, 41, 42, 43, 104, 105, 106, 107, 114, 115] (by decide +kernel) (by decide +kernel)
set_option maxRecDepth 20000 in
theorem gX9_readItems_X9_next : GoodIn wsX9_readItems (wsV RX9 40 RX9 yX9_next wsX9_next) := goodIn_app (goodIn_of _ (by decide +kernel)) ggX9_readItems_X9_next
set_option maxRecDepth 20000 in
theorem ggX9_readItems_X9_readItem : GoodIn wsX9_readItems wsX9_readItem := goodIn_r _ [47, 2, 32, 33, 34, 30, 35, 36, 37, 38, 39, 40, 41, 42, 43, 48, 49, 50, 51, 1, 52, 53, 54, 55, 56, 3, 27, 28, 29, 31, 57, 58, 59, 60, 61, 62, 63, 64, 65, 20, 21, 22, 66, 67, 68, 69, 70, 71, 72, 73, 74, 7, 75, 12, 10, 76, 77, 78, 16, 79, 80, 81, 82, 83, 84, 18, 85, 86, 87, 88, 89, 90, 91, 92, 93, 94, 95, 96, 97, 9, 98, 99, 100, 101, 102, 103, 104, 105, 106, 107, 114, 115, 108, 109, 110, 111, 112, 113] (by decide +kernel) (by decide +kernel)
set_option maxRecDepth 20000 in
theorem gX9_readItems_X9_readItem : GoodIn wsX9_readItems (wsV RX9 44 RX9 yX9_readItem wsX9_readItem) := goodIn_app (goodIn_of _ (by decide +kernel)) ggX9_readItems_X9_readItem
theorem dX9_readItems_0 : decode cX9_readItems 0 = .ok (.aload_n 0, 1) := by decide +kernel
theorem dX9_readItems_1 : decode cX9_readItems 1 = .ok (.getfield 21, 3) := by decide +kernel
theorem dX9_readItems_4 : decode cX9_readItems 4 = .ok (.aload_n 1, 1) := by decide +kernel
theorem dX9_readItems_5 : decode cX9_readItems 5 = .ok (.invokevirtual 25, 3) := by decide +kernel
theorem dX9_readItems_8 : decode cX9_readItems 8 = .ok (.aload_n 0, 1) := by decide +kernel
theorem dX9_readItems_9 : decode cX9_readItems 9 = .ok (.iconst 0, 1) := by decide +kernel
theorem dX9_readItems_10 : decode cX9_readItems 10 = .ok (.putfield 29, 3) := by decide +kernel
theorem dX9_readItems_13 : decode cX9_readItems 13 = .ok (.aload_n 0, 1) := by decide +kernel
theorem dX9_readItems_14 : decode cX9_readItems 14 = .ok (.iconst (-1), 1) := by decide +kernel
theorem dX9_readItems_15 : decode cX9_readItems 15 = .ok (.putfield 33, 3) := by decide +kernel
theorem dX9_readItems_18 : decode cX9_readItems 18 = .ok (.iconst 0, 1) := by decide +kernel
theorem dX9_readItems_19 : decode cX9_readItems 19 = .ok (.istore_n 2, 1) := by decide +kernel
theorem dX9_readItems_20 : decode cX9_readItems 20 = .ok (.iload_n 2, 1) := by decide +kernel
theorem dX9_readItems_21 : decode cX9_readItems 21 = .ok (.sipush 140, 3) := by decide +kernel
theorem dX9_readItems_24 : decode cX9_readItems 24 = .ok (.if_icmp .ge 27, 3) := by decide +kernel
theorem dX9_readItems_27 : decode cX9_readItems 27 = .ok (.aload_n 0, 1) := by decide +kernel
theorem dX9_readItems_28 : decode cX9_readItems 28 = .ok (.invokevirtual 36, 3) := by decide +kernel
theorem dX9_readItems_31 : decode cX9_readItems 31 = .ok (.ifCond .ne 20, 3) := by decide +kernel
theorem dX9_readItems_34 : decode cX9_readItems 34 = .ok (.aload_n 0, 1) := by decide +kernel
theorem dX9_readItems_35 : decode cX9_readItems 35 = .ok (.invokevirtual 40, 3) := by decide +kernel
theorem dX9_readItems_38 : decode cX9_readItems 38 = .ok (.ifCond .eq 13, 3) := by decide +kernel
theorem dX9_readItems_41 : decode cX9_readItems 41 = .ok (.aload_n 0, 1) := by decide +kernel
theorem dX9_readItems_42 : decode cX9_readItems 42 = .ok (.invokevirtual 44, 3) := by decide +kernel
theorem dX9_readItems_45 : decode cX9_readItems 45 = .ok (.iinc 2 1, 3) := by decide +kernel
theorem dX9_readItems_48 : decode cX9_readItems 48 = .ok (.goto (-28), 3) := by decide +kernel
theorem dX9_readItems_51 : decode cX9_readItems 51 = .ok (.iload_n 2, 1) := by decide +kernel
theorem dX9_readItems_52 : decode cX9_readItems 52 = .ok (.ireturn, 1) := by decide +kernel
theorem dX9_hasFailed_0 : decode cX9_hasFailed 0 = .ok (.aload_n 0, 1) := by decide +kernel
theorem dX9_hasFailed_1 : decode cX9_hasFailed 1 = .ok (.getfield 33, 3) := by decide +kernel
theorem dX9_hasFailed_4 : decode cX9_hasFailed 4 = .ok (.ifCond .lt 7, 3) := by decide +kernel
theorem dX9_hasFailed_7 : decode cX9_hasFailed 7 = .ok (.iconst 1, 1) := by decide +kernel
theorem dX9_hasFailed_8 : decode cX9_hasFailed 8 = .ok (.goto 4, 3) := by decide +kernel
theorem dX9_hasFailed_11 : decode cX9_hasFailed 11 = .ok (.iconst 0, 1) := by decide +kernel
theorem dX9_hasFailed_12 : decode cX9_hasFailed 12 = .ok (.ireturn, 1) := by decide +kernel
set_option maxRecDepth 20000 in
theorem ggX9_readItem_X9_next : GoodIn wsX9_readItem wsX9_next := goodIn_r _ [6, 1, 7, 8, 9, 10, 11, 12, 13, 14, 86, 87, 88, 89, 90, 91] (by decide +kernel) (by decide +kernel)
set_option maxRecDepth 20000 in
theorem gX9_readItem_X9_next : GoodIn wsX9_readItem (wsV RX9 40 RX9 yX9_next wsX9_next) := goodIn_app (goodIn_of _ (by decide +kernel)) ggX9_readItem_X9_next
set_option maxRecDepth 20000 in
theorem ggX9_readItem_X9_readEntry : GoodIn wsX9_readItem wsX9_readEntry := goodIn_r _ [18, 19, 20, 1, 2, 3, 4, 5, 6, 7, 8, 9, 10, 11, 12, 13, 14, 21, 22, 23, 24, 25, 26, 27, 28, 29, 30, 31, 32, 33, 34, 35, 36, 37, 38, 39, 40, 41, 42, 43, 44, 45, 46, 47, 48, 49, 50, 51, 52, 53, 54, 55, 56, 57, 58, 59, 60, 61, 62, 63, 64, 65, 66, 67, 68, 69, 70, 86, 87, 88, 89, 92, 93, 94, 95, 90, 91, 96, 97] (by decide +kernel) (by decide +kernel)
set_option maxRecDepth 20000 in
theorem gX9_readItem_X9_readEntry : GoodIn wsX9_readItem (wsV RX9 47 RX9 yX9_readEntry wsX9_readEntry) := goodIn_app (goodIn_of _ (by decide +kernel)) ggX9_readItem_X9_readEntry
set_option maxRecDepth 20000 in
theorem ggX9_readItem_X9_readNumber : GoodIn wsX9_readItem wsX9_readNumber := goodIn_r _ [37, 1, 7, 38, 39, 40, 41, 2, 3, 4, 5, 6, 8, 9, 10, 11, 12, 13, 14, 42, 43, 44, 45, 46, 47, 21, 22, 23, 24, 25, 26, 27, 28, 29, 86, 87, 88, 89, 90, 91] (by decide +kernel) (by decide +kernel)
set_option maxRecDepth 20000 in
theorem gX9_readItem_X9_readNumber : GoodIn wsX9_readItem (wsV RX9 51 RX9 yX9_readNumber wsX9_readNumber) := goodIn_app (goodIn_of _ (by decide +kernel)) ggX9_readItem_X9_readNumber
set_option maxRecDepth 20000 in
theorem ggX9_readItem_X9_readSource : GoodIn wsX9_readItem wsX9_readSource := goodIn_r _ [74, 1, 19, 34, 35, 36, 5, 37, 7, 38, 39, 40, 41, 2, 3, 4, 6, 8, 9, 10, 11, 12, 13, 14, 42, 43, 44, 45, 46, 47, 21, 22, 23, 24, 25, 26, 27, 28, 29, 30, 31, 32, 33, 75, 76, 77, 51, 78, 79, 70, 67, 68, 58, 69, 60, 65, 86, 87, 88, 89, 90, 91, 92, 93, 94, 95, 96, 97] (by decide +kernel) (by decide +kernel)
set_option maxRecDepth 20000 in
theorem gX9_readItem_X9_readSource : GoodIn wsX9_readItem (wsV RX9 55 RX9 yX9_readSource wsX9_readSource) := goodIn_app (goodIn_of _ (by decide +kernel)) ggX9_readItem_X9_readSource
set_option maxRecDepth 20000 in
theorem ggX9_readItem_X9_readResistance : GoodIn wsX9_readItem wsX9_readResistance := goodIn_r _ [83, 19, 84, 34, 35, 36, 5, 37, 1, 7, 38, 39, 40, 41, 2, 3, 4, 6, 8, 9, 10, 11, 12, 13, 14, 42, 43, 44, 45, 46, 47, 21, 22, 23, 24, 25, 26, 27, 28, 29, 30, 31, 32, 33, 85, 67, 68, 58, 69, 60, 65, 86, 87, 88, 89, 92, 93, 94, 95, 90, 91, 96, 97] (by decide +kernel) (by decide +kernel)
set_option maxRecDepth 20000 in
theorem gX9_readItem_X9_readResistance : GoodIn wsX9_readItem (wsV RX9 58 RX9 yX9_readResistance wsX9_readResistance) := goodIn_app (goodIn_of _ (by decide +kernel)) ggX9_readItem_X9_readResistance
set_option maxRecDepth 20000 in
theorem ggX9_readItem_X9_failAt : GoodIn wsX9_readItem wsX9_failAt := goodIn_r _ [24, 25, 26, 27, 28, 5, 29, 86, 87, 88, 89] (by decide +kernel) (by decide +kernel)
set_option maxRecDepth 20000 in
theorem gX9_readItem_X9_failAt : GoodIn wsX9_readItem (wsV RX9 61 RX9 yX9_failAt wsX9_failAt) := goodIn_app (goodIn_of _ (by decide +kernel)) ggX9_readItem_X9_failAt
