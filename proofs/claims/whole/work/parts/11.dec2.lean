theorem dX10_init_0 : decode cX10_init 0 = .ok (.aload_n 0, 1) := by decide +kernel
theorem dX10_init_1 : decode cX10_init 1 = .ok (.invokespecial 1, 3) := by decide +kernel
theorem dX10_init_4 : decode cX10_init 4 = .ok (.aload_n 0, 1) := by decide +kernel
theorem dX10_init_5 : decode cX10_init 5 = .ok (.new 7, 3) := by decide +kernel
theorem dX10_init_8 : decode cX10_init 8 = .ok (.dup, 1) := by decide +kernel
theorem dX10_init_9 : decode cX10_init 9 = .ok (.invokespecial 9, 3) := by decide +kernel
theorem dX10_init_12 : decode cX10_init 12 = .ok (.putfield 10, 3) := by decide +kernel
theorem dX10_init_15 : decode cX10_init 15 = .ok (.aload_n 0, 1) := by decide +kernel
theorem dX10_init_16 : decode cX10_init 16 = .ok (.new 16, 3) := by decide +kernel
theorem dX10_init_19 : decode cX10_init 19 = .ok (.dup, 1) := by decide +kernel
theorem dX10_init_20 : decode cX10_init 20 = .ok (.invokespecial 18, 3) := by decide +kernel
theorem dX10_init_23 : decode cX10_init 23 = .ok (.putfield 19, 3) := by decide +kernel
theorem dX10_init_26 : decode cX10_init 26 = .ok (.aload_n 0, 1) := by decide +kernel
theorem dX10_init_27 : decode cX10_init 27 = .ok (.new 23, 3) := by decide +kernel
theorem dX10_init_30 : decode cX10_init 30 = .ok (.dup, 1) := by decide +kernel
theorem dX10_init_31 : decode cX10_init 31 = .ok (.invokespecial 25, 3) := by decide +kernel
theorem dX10_init_34 : decode cX10_init 34 = .ok (.putfield 26, 3) := by decide +kernel
theorem dX10_init_37 : decode cX10_init 37 = .ok (.aload_n 0, 1) := by decide +kernel
theorem dX10_init_38 : decode cX10_init 38 = .ok (.new 30, 3) := by decide +kernel
theorem dX10_init_41 : decode cX10_init 41 = .ok (.dup, 1) := by decide +kernel
theorem dX10_init_42 : decode cX10_init 42 = .ok (.invokespecial 32, 3) := by decide +kernel
theorem dX10_init_45 : decode cX10_init 45 = .ok (.putfield 33, 3) := by decide +kernel
theorem dX10_init_48 : decode cX10_init 48 = .ok (.aload_n 0, 1) := by decide +kernel
theorem dX10_init_49 : decode cX10_init 49 = .ok (.new 37, 3) := by decide +kernel
theorem dX10_init_52 : decode cX10_init 52 = .ok (.dup, 1) := by decide +kernel
theorem dX10_init_53 : decode cX10_init 53 = .ok (.invokespecial 39, 3) := by decide +kernel
theorem dX10_init_56 : decode cX10_init 56 = .ok (.putfield 40, 3) := by decide +kernel
theorem dX10_init_59 : decode cX10_init 59 = .ok (.aload_n 0, 1) := by decide +kernel
theorem dX10_init_60 : decode cX10_init 60 = .ok (.new 44, 3) := by decide +kernel
theorem dX10_init_63 : decode cX10_init 63 = .ok (.dup, 1) := by decide +kernel
theorem dX10_init_64 : decode cX10_init 64 = .ok (.invokespecial 46, 3) := by decide +kernel
theorem dX10_init_67 : decode cX10_init 67 = .ok (.putfield 47, 3) := by decide +kernel
theorem dX10_init_70 : decode cX10_init 70 = .ok (.return_, 1) := by decide +kernel
set_option maxRecDepth 20000 in
theorem ggX10_setSource_X10_isChannel : GoodIn wsX10_setSource wsX10_isChannel := goodIn_r _ [9, 10, 11, 8, 12] (by decide +kernel) (by decide +kernel)
set_option maxRecDepth 20000 in
theorem gX10_setSource_X10_isChannel : GoodIn wsX10_setSource (va_wsS RX10 51 yX10_isChannel wsX10_isChannel) := goodIn_app (goodIn_of _ (by decide +kernel)) ggX10_setSource_X10_isChannel
set_option maxRecDepth 20000 in
theorem ggX10_setSource_X10_isSource : GoodIn wsX10_setSource wsX10_isSource := goodIn_r _ [15, 10, 11, 8, 12] (by decide +kernel) (by decide +kernel)
set_option maxRecDepth 20000 in
theorem gX10_setSource_X10_isSource : GoodIn wsX10_setSource (va_wsS RX10 55 yX10_isSource wsX10_isSource) := goodIn_app (goodIn_of _ (by decide +kernel)) ggX10_setSource_X10_isSource
set_option maxRecDepth 20000 in
theorem ggX10_setSource_X1_keep : GoodIn wsX10_setSource wsX1_keep := goodIn_r _ [20, 21, 22, 23, 24, 25, 26, 27, 28, 29, 19, 30, 31, 32, 33, 34, 35, 36, 37, 38, 39, 40, 41, 42, 43, 44, 45, 46, 47, 48, 49, 50, 51, 52, 53, 54, 55, 56, 57, 58, 59, 60, 61, 62, 63, 64, 65, 66, 67, 68, 69, 70, 71, 72, 73, 74, 75, 76, 77, 78, 79, 80, 81, 112, 113, 114, 101, 102, 103, 104, 105, 106, 107, 108, 109, 110, 111, 115, 116, 117, 118, 119, 120, 121] (by decide +kernel) (by decide +kernel)
set_option maxRecDepth 20000 in
theorem gX10_setSource_X1_keep : GoodIn wsX10_setSource (wsV RX10 60 RX1 yX1_keep wsX1_keep) := goodIn_app (goodIn_of _ (by decide +kernel)) ggX10_setSource_X1_keep
set_option maxRecDepth 20000 in
theorem ggX10_setSource_X7_at : GoodIn wsX10_setSource wsX7_at := goodIn_r _ [85, 86, 58, 115, 116] (by decide +kernel) (by decide +kernel)
set_option maxRecDepth 20000 in
theorem gX10_setSource_X7_at : GoodIn wsX10_setSource (wsV RX10 71 RX7 yX7_at wsX7_at) := goodIn_app (goodIn_of _ (by decide +kernel)) ggX10_setSource_X7_at
set_option maxRecDepth 20000 in
theorem ggX10_setSource_X3_putSource : GoodIn wsX10_setSource wsX3_putSource := goodIn_r _ [90, 49, 91, 92, 93, 56, 94, 86, 58, 108, 109, 110, 111, 115, 116] (by decide +kernel) (by decide +kernel)
set_option maxRecDepth 20000 in
theorem gX10_setSource_X3_putSource : GoodIn wsX10_setSource (wsV RX10 77 RX3 yX3_putSource wsX3_putSource) := goodIn_app (goodIn_of _ (by decide +kernel)) ggX10_setSource_X3_putSource
theorem dX10_setSource_0 : decode cX10_setSource 0 = .ok (.iload_n 1, 1) := by decide +kernel
theorem dX10_setSource_1 : decode cX10_setSource 1 = .ok (.invokestatic 51, 3) := by decide +kernel
theorem dX10_setSource_4 : decode cX10_setSource 4 = .ok (.ifCond .eq 15, 3) := by decide +kernel
theorem dX10_setSource_7 : decode cX10_setSource 7 = .ok (.iload_n 2, 1) := by decide +kernel
theorem dX10_setSource_8 : decode cX10_setSource 8 = .ok (.iload_n 3, 1) := by decide +kernel
theorem dX10_setSource_9 : decode cX10_setSource 9 = .ok (.iload 4, 2) := by decide +kernel
theorem dX10_setSource_11 : decode cX10_setSource 11 = .ok (.iload 5, 2) := by decide +kernel
theorem dX10_setSource_13 : decode cX10_setSource 13 = .ok (.invokestatic 55, 3) := by decide +kernel
theorem dX10_setSource_16 : decode cX10_setSource 16 = .ok (.ifCond .ne 6, 3) := by decide +kernel
theorem dX10_setSource_19 : decode cX10_setSource 19 = .ok (.ldc 59, 2) := by decide +kernel
theorem dX10_setSource_21 : decode cX10_setSource 21 = .ok (.ireturn, 1) := by decide +kernel
theorem dX10_setSource_22 : decode cX10_setSource 22 = .ok (.aload_n 0, 1) := by decide +kernel
theorem dX10_setSource_23 : decode cX10_setSource 23 = .ok (.getfield 19, 3) := by decide +kernel
theorem dX10_setSource_26 : decode cX10_setSource 26 = .ok (.aload_n 0, 1) := by decide +kernel
theorem dX10_setSource_27 : decode cX10_setSource 27 = .ok (.getfield 10, 3) := by decide +kernel
theorem dX10_setSource_30 : decode cX10_setSource 30 = .ok (.invokevirtual 60, 3) := by decide +kernel
theorem dX10_setSource_33 : decode cX10_setSource 33 = .ok (.aload_n 0, 1) := by decide +kernel
theorem dX10_setSource_34 : decode cX10_setSource 34 = .ok (.getfield 10, 3) := by decide +kernel
theorem dX10_setSource_37 : decode cX10_setSource 37 = .ok (.getfield 64, 3) := by decide +kernel
theorem dX10_setSource_40 : decode cX10_setSource 40 = .ok (.getfield 67, 3) := by decide +kernel
theorem dX10_setSource_43 : decode cX10_setSource 43 = .ok (.iload_n 1, 1) := by decide +kernel
theorem dX10_setSource_44 : decode cX10_setSource 44 = .ok (.iconst 0, 1) := by decide +kernel
theorem dX10_setSource_45 : decode cX10_setSource 45 = .ok (.invokevirtual 71, 3) := by decide +kernel
theorem dX10_setSource_48 : decode cX10_setSource 48 = .ok (.istore 6, 2) := by decide +kernel
theorem dX10_setSource_50 : decode cX10_setSource 50 = .ok (.aload_n 0, 1) := by decide +kernel
theorem dX10_setSource_51 : decode cX10_setSource 51 = .ok (.getfield 10, 3) := by decide +kernel
theorem dX10_setSource_54 : decode cX10_setSource 54 = .ok (.getfield 64, 3) := by decide +kernel
theorem dX10_setSource_57 : decode cX10_setSource 57 = .ok (.iload_n 1, 1) := by decide +kernel
theorem dX10_setSource_58 : decode cX10_setSource 58 = .ok (.iload_n 2, 1) := by decide +kernel
theorem dX10_setSource_59 : decode cX10_setSource 59 = .ok (.iload_n 3, 1) := by decide +kernel
theorem dX10_setSource_60 : decode cX10_setSource 60 = .ok (.iload 4, 2) := by decide +kernel
theorem dX10_setSource_62 : decode cX10_setSource 62 = .ok (.iload 5, 2) := by decide +kernel
theorem dX10_setSource_64 : decode cX10_setSource 64 = .ok (.invokevirtual 77, 3) := by decide +kernel
theorem dX10_setSource_67 : decode cX10_setSource 67 = .ok (.iload 6, 2) := by decide +kernel
theorem dX10_setSource_69 : decode cX10_setSource 69 = .ok (.ireturn, 1) := by decide +kernel
set_option maxRecDepth 20000 in
theorem ggX10_setResistance_X10_isChannel : GoodIn wsX10_setResistance wsX10_isChannel := goodIn_r _ [9, 10, 11, 8, 12] (by decide +kernel) (by decide +kernel)
set_option maxRecDepth 20000 in
theorem gX10_setResistance_X10_isChannel : GoodIn wsX10_setResistance (va_wsS RX10 51 yX10_isChannel wsX10_isChannel) := goodIn_app (goodIn_of _ (by decide +kernel)) ggX10_setResistance_X10_isChannel
set_option maxRecDepth 20000 in
theorem ggX10_setResistance_X10_isWithin : GoodIn wsX10_setResistance wsX10_isWithin := goodIn_r _ [12] (by decide +kernel) (by decide +kernel)
set_option maxRecDepth 20000 in
theorem gX10_setResistance_X10_isWithin : GoodIn wsX10_setResistance (va_wsS RX10 81 yX10_isWithin wsX10_isWithin) := goodIn_app (goodIn_of _ (by decide +kernel)) ggX10_setResistance_X10_isWithin
set_option maxRecDepth 20000 in
theorem ggX10_setResistance_X1_keep : GoodIn wsX10_setResistance wsX1_keep := goodIn_r _ [17, 18, 19, 20, 21, 22, 23, 24, 25, 26, 16, 27, 28, 29, 30, 31, 32, 33, 34, 35, 36, 37, 38, 39, 40, 41, 42, 43, 44, 45, 46, 47, 48, 49, 50, 51, 52, 53, 54, 55, 56, 57, 58, 59, 60, 61, 62, 63, 64, 65, 66, 67, 68, 69, 70, 71, 72, 73, 74, 75, 76, 77, 78, 105, 106, 107, 94, 95, 96, 97, 98, 99, 100, 101, 102, 103, 104, 108, 109, 110, 111, 112, 113, 114] (by decide +kernel) (by decide +kernel)
set_option maxRecDepth 20000 in
theorem gX10_setResistance_X1_keep : GoodIn wsX10_setResistance (wsV RX10 60 RX1 yX1_keep wsX1_keep) := goodIn_app (goodIn_of _ (by decide +kernel)) ggX10_setResistance_X1_keep
set_option maxRecDepth 20000 in
theorem ggX10_setResistance_X7_at : GoodIn wsX10_setResistance wsX7_at := goodIn_r _ [82, 83, 55, 108, 109] (by decide +kernel) (by decide +kernel)
set_option maxRecDepth 20000 in
theorem gX10_setResistance_X7_at : GoodIn wsX10_setResistance (wsV RX10 71 RX7 yX7_at wsX7_at) := goodIn_app (goodIn_of _ (by decide +kernel)) ggX10_setResistance_X7_at
set_option maxRecDepth 20000 in
theorem ggX10_setResistance_X7_put : GoodIn wsX10_setResistance wsX7_put := goodIn_r _ [87, 83, 55, 108, 109] (by decide +kernel) (by decide +kernel)
set_option maxRecDepth 20000 in
theorem gX10_setResistance_X7_put : GoodIn wsX10_setResistance (wsV RX10 85 RX7 yX7_put wsX7_put) := goodIn_app (goodIn_of _ (by decide +kernel)) ggX10_setResistance_X7_put
theorem dX10_setResistance_0 : decode cX10_setResistance 0 = .ok (.iload_n 1, 1) := by decide +kernel
theorem dX10_setResistance_1 : decode cX10_setResistance 1 = .ok (.invokestatic 51, 3) := by decide +kernel
theorem dX10_setResistance_4 : decode cX10_setResistance 4 = .ok (.ifCond .eq 13, 3) := by decide +kernel
theorem dX10_setResistance_7 : decode cX10_setResistance 7 = .ok (.iload_n 2, 1) := by decide +kernel
theorem dX10_setResistance_8 : decode cX10_setResistance 8 = .ok (.iconst 0, 1) := by decide +kernel
theorem dX10_setResistance_9 : decode cX10_setResistance 9 = .ok (.bipush 31, 2) := by decide +kernel
theorem dX10_setResistance_11 : decode cX10_setResistance 11 = .ok (.invokestatic 81, 3) := by decide +kernel
theorem dX10_setResistance_14 : decode cX10_setResistance 14 = .ok (.ifCond .ne 6, 3) := by decide +kernel
theorem dX10_setResistance_17 : decode cX10_setResistance 17 = .ok (.ldc 59, 2) := by decide +kernel
theorem dX10_setResistance_19 : decode cX10_setResistance 19 = .ok (.ireturn, 1) := by decide +kernel
theorem dX10_setResistance_20 : decode cX10_setResistance 20 = .ok (.aload_n 0, 1) := by decide +kernel
theorem dX10_setResistance_21 : decode cX10_setResistance 21 = .ok (.getfield 19, 3) := by decide +kernel
theorem dX10_setResistance_24 : decode cX10_setResistance 24 = .ok (.aload_n 0, 1) := by decide +kernel
theorem dX10_setResistance_25 : decode cX10_setResistance 25 = .ok (.getfield 10, 3) := by decide +kernel
theorem dX10_setResistance_28 : decode cX10_setResistance 28 = .ok (.invokevirtual 60, 3) := by decide +kernel
theorem dX10_setResistance_31 : decode cX10_setResistance 31 = .ok (.aload_n 0, 1) := by decide +kernel
theorem dX10_setResistance_32 : decode cX10_setResistance 32 = .ok (.getfield 10, 3) := by decide +kernel
theorem dX10_setResistance_35 : decode cX10_setResistance 35 = .ok (.getfield 64, 3) := by decide +kernel
theorem dX10_setResistance_38 : decode cX10_setResistance 38 = .ok (.getfield 67, 3) := by decide +kernel
theorem dX10_setResistance_41 : decode cX10_setResistance 41 = .ok (.iload_n 1, 1) := by decide +kernel
theorem dX10_setResistance_42 : decode cX10_setResistance 42 = .ok (.iconst 4, 1) := by decide +kernel
theorem dX10_setResistance_43 : decode cX10_setResistance 43 = .ok (.invokevirtual 71, 3) := by decide +kernel
theorem dX10_setResistance_46 : decode cX10_setResistance 46 = .ok (.istore_n 3, 1) := by decide +kernel
theorem dX10_setResistance_47 : decode cX10_setResistance 47 = .ok (.aload_n 0, 1) := by decide +kernel
theorem dX10_setResistance_48 : decode cX10_setResistance 48 = .ok (.getfield 10, 3) := by decide +kernel
theorem dX10_setResistance_51 : decode cX10_setResistance 51 = .ok (.getfield 64, 3) := by decide +kernel
theorem dX10_setResistance_54 : decode cX10_setResistance 54 = .ok (.getfield 67, 3) := by decide +kernel
theorem dX10_setResistance_57 : decode cX10_setResistance 57 = .ok (.iload_n 1, 1) := by decide +kernel
theorem dX10_setResistance_58 : decode cX10_setResistance 58 = .ok (.iconst 4, 1) := by decide +kernel
theorem dX10_setResistance_59 : decode cX10_setResistance 59 = .ok (.iload_n 2, 1) := by decide +kernel
theorem dX10_setResistance_60 : decode cX10_setResistance 60 = .ok (.invokevirtual 85, 3) := by decide +kernel
theorem dX10_setResistance_63 : decode cX10_setResistance 63 = .ok (.iload_n 3, 1) := by decide +kernel
theorem dX10_setResistance_64 : decode cX10_setResistance 64 = .ok (.ireturn, 1) := by decide +kernel
set_option maxRecDepth 20000 in
theorem ggX10_set_X10_isSetting : GoodIn wsX10_set wsX10_isSetting := goodIn_r _ [9, 10, 11, 8, 12] (by decide +kernel) (by decide +kernel)
set_option maxRecDepth 20000 in
theorem gX10_set_X10_isSetting : GoodIn wsX10_set (va_wsS RX10 89 yX10_isSetting wsX10_isSetting) := goodIn_app (goodIn_of _ (by decide +kernel)) ggX10_set_X10_isSetting
set_option maxRecDepth 20000 in
theorem ggX10_set_X1_keep : GoodIn wsX10_set wsX1_keep := goodIn_r _ [17, 18, 19, 20, 21, 22, 23, 24, 25, 26, 16, 27, 28, 29, 30, 31, 32, 33, 34, 35, 36, 37, 38, 39, 40, 41, 42, 43, 44, 45, 46, 47, 48, 49, 50, 51, 52, 53, 54, 55, 56, 57, 58, 59, 60, 61, 62, 63, 64, 65, 66, 67, 68, 69, 70, 71, 72, 73, 74, 75, 76, 77, 78, 109, 110, 111, 98, 99, 100, 101, 102, 103, 104, 105, 106, 107, 108, 112, 113, 114, 115, 116, 117, 118] (by decide +kernel) (by decide +kernel)
set_option maxRecDepth 20000 in
theorem gX10_set_X1_keep : GoodIn wsX10_set (wsV RX10 60 RX1 yX1_keep wsX1_keep) := goodIn_app (goodIn_of _ (by decide +kernel)) ggX10_set_X1_keep
set_option maxRecDepth 20000 in
theorem ggX10_set_X3_setting : GoodIn wsX10_set wsX3_setting := goodIn_r _ [82, 48, 83, 84, 85, 53, 86, 87, 55, 105, 106, 107, 108, 112, 113] (by decide +kernel) (by decide +kernel)
set_option maxRecDepth 20000 in
theorem gX10_set_X3_setting : GoodIn wsX10_set (wsV RX10 93 RX3 yX3_setting wsX3_setting) := goodIn_app (goodIn_of _ (by decide +kernel)) ggX10_set_X3_setting
set_option maxRecDepth 20000 in
theorem ggX10_set_X7_put : GoodIn wsX10_set wsX7_put := goodIn_r _ [91, 87, 55, 112, 113] (by decide +kernel) (by decide +kernel)
set_option maxRecDepth 20000 in
theorem gX10_set_X7_put : GoodIn wsX10_set (wsV RX10 85 RX7 yX7_put wsX7_put) := goodIn_app (goodIn_of _ (by decide +kernel)) ggX10_set_X7_put
theorem dX10_set_0 : decode cX10_set 0 = .ok (.iload_n 1, 1) := by decide +kernel
theorem dX10_set_1 : decode cX10_set 1 = .ok (.iload_n 2, 1) := by decide +kernel
theorem dX10_set_2 : decode cX10_set 2 = .ok (.invokestatic 89, 3) := by decide +kernel
theorem dX10_set_5 : decode cX10_set 5 = .ok (.ifCond .ne 6, 3) := by decide +kernel
theorem dX10_set_8 : decode cX10_set 8 = .ok (.ldc 59, 2) := by decide +kernel
theorem dX10_set_10 : decode cX10_set 10 = .ok (.ireturn, 1) := by decide +kernel
theorem dX10_set_11 : decode cX10_set 11 = .ok (.aload_n 0, 1) := by decide +kernel
theorem dX10_set_12 : decode cX10_set 12 = .ok (.getfield 19, 3) := by decide +kernel
theorem dX10_set_15 : decode cX10_set 15 = .ok (.aload_n 0, 1) := by decide +kernel
theorem dX10_set_16 : decode cX10_set 16 = .ok (.getfield 10, 3) := by decide +kernel
theorem dX10_set_19 : decode cX10_set 19 = .ok (.invokevirtual 60, 3) := by decide +kernel
theorem dX10_set_22 : decode cX10_set 22 = .ok (.aload_n 0, 1) := by decide +kernel
theorem dX10_set_23 : decode cX10_set 23 = .ok (.getfield 10, 3) := by decide +kernel
theorem dX10_set_26 : decode cX10_set 26 = .ok (.getfield 64, 3) := by decide +kernel
theorem dX10_set_29 : decode cX10_set 29 = .ok (.iload_n 1, 1) := by decide +kernel
theorem dX10_set_30 : decode cX10_set 30 = .ok (.invokevirtual 93, 3) := by decide +kernel
theorem dX10_set_33 : decode cX10_set 33 = .ok (.istore_n 3, 1) := by decide +kernel
theorem dX10_set_34 : decode cX10_set 34 = .ok (.aload_n 0, 1) := by decide +kernel
theorem dX10_set_35 : decode cX10_set 35 = .ok (.getfield 10, 3) := by decide +kernel
theorem dX10_set_38 : decode cX10_set 38 = .ok (.getfield 64, 3) := by decide +kernel
theorem dX10_set_41 : decode cX10_set 41 = .ok (.getfield 97, 3) := by decide +kernel
theorem dX10_set_44 : decode cX10_set 44 = .ok (.iload_n 1, 1) := by decide +kernel
theorem dX10_set_45 : decode cX10_set 45 = .ok (.iconst 0, 1) := by decide +kernel
theorem dX10_set_46 : decode cX10_set 46 = .ok (.iload_n 2, 1) := by decide +kernel
theorem dX10_set_47 : decode cX10_set 47 = .ok (.invokevirtual 85, 3) := by decide +kernel
theorem dX10_set_50 : decode cX10_set 50 = .ok (.iload_n 3, 1) := by decide +kernel
theorem dX10_set_51 : decode cX10_set 51 = .ok (.ireturn, 1) := by decide +kernel
set_option maxRecDepth 20000 in
theorem ggX10_addEntry_X10_isWithin : GoodIn wsX10_addEntry wsX10_isWithin := goodIn_r _ [10] (by decide +kernel) (by decide +kernel)
set_option maxRecDepth 20000 in
theorem gX10_addEntry_X10_isWithin : GoodIn wsX10_addEntry (va_wsS RX10 81 yX10_isWithin wsX10_isWithin) := goodIn_app (goodIn_of _ (by decide +kernel)) ggX10_addEntry_X10_isWithin
set_option maxRecDepth 20000 in
theorem ggX10_addEntry_X10_isSettle : GoodIn wsX10_addEntry wsX10_isSettle := goodIn_r _ [13, 7, 8, 9, 10] (by decide +kernel) (by decide +kernel)
set_option maxRecDepth 20000 in
theorem gX10_addEntry_X10_isSettle : GoodIn wsX10_addEntry (va_wsS RX10 104 yX10_isSettle wsX10_isSettle) := goodIn_app (goodIn_of _ (by decide +kernel)) ggX10_addEntry_X10_isSettle
set_option maxRecDepth 20000 in
theorem ggX10_addEntry_X1_keep : GoodIn wsX10_addEntry wsX1_keep := goodIn_r _ [18, 19, 20, 21, 22, 23, 24, 25, 26, 27, 17, 28, 29, 30, 31, 32, 33, 34, 35, 36, 37, 38, 39, 40, 41, 42, 43, 44, 45, 46, 47, 48, 49, 50, 51, 52, 53, 54, 55, 56, 57, 58, 59, 60, 61, 62, 63, 64, 65, 66, 67, 68, 69, 70, 71, 72, 73, 74, 75, 76, 77, 78, 79, 115, 116, 117, 104, 105, 106, 107, 108, 109, 110, 111, 112, 113, 114, 118, 119, 120, 121, 122, 123, 124] (by decide +kernel) (by decide +kernel)
set_option maxRecDepth 20000 in
theorem gX10_addEntry_X1_keep : GoodIn wsX10_addEntry (wsV RX10 60 RX1 yX1_keep wsX1_keep) := goodIn_app (goodIn_of _ (by decide +kernel)) ggX10_addEntry_X1_keep
set_option maxRecDepth 20000 in
theorem ggX10_addEntry_X3_insert : GoodIn wsX10_addEntry wsX3_insert := goodIn_r _ [83, 50, 48, 84, 85, 86, 54, 87, 88, 89, 90, 91, 92, 56, 93, 94, 95, 96, 97, 111, 112, 113, 114, 118, 119] (by decide +kernel) (by decide +kernel)
set_option maxRecDepth 20000 in
theorem gX10_addEntry_X3_insert : GoodIn wsX10_addEntry (wsV RX10 108 RX3 yX3_insert wsX3_insert) := goodIn_app (goodIn_of _ (by decide +kernel)) ggX10_addEntry_X3_insert
theorem dX10_addEntry_0 : decode cX10_addEntry 0 = .ok (.aload_n 0, 1) := by decide +kernel
theorem dX10_addEntry_1 : decode cX10_addEntry 1 = .ok (.getfield 10, 3) := by decide +kernel
theorem dX10_addEntry_4 : decode cX10_addEntry 4 = .ok (.getfield 64, 3) := by decide +kernel
theorem dX10_addEntry_7 : decode cX10_addEntry 7 = .ok (.getfield 100, 3) := by decide +kernel
theorem dX10_addEntry_10 : decode cX10_addEntry 10 = .ok (.istore 4, 2) := by decide +kernel
theorem dX10_addEntry_12 : decode cX10_addEntry 12 = .ok (.iload_n 1, 1) := by decide +kernel
theorem dX10_addEntry_13 : decode cX10_addEntry 13 = .ok (.iconst 0, 1) := by decide +kernel
theorem dX10_addEntry_14 : decode cX10_addEntry 14 = .ok (.bipush 9, 2) := by decide +kernel
theorem dX10_addEntry_16 : decode cX10_addEntry 16 = .ok (.invokestatic 81, 3) := by decide +kernel
theorem dX10_addEntry_19 : decode cX10_addEntry 19 = .ok (.ifCond .eq 20, 3) := by decide +kernel
theorem dX10_addEntry_22 : decode cX10_addEntry 22 = .ok (.iload_n 2, 1) := by decide +kernel
theorem dX10_addEntry_23 : decode cX10_addEntry 23 = .ok (.invokestatic 104, 3) := by decide +kernel
theorem dX10_addEntry_26 : decode cX10_addEntry 26 = .ok (.ifCond .eq 13, 3) := by decide +kernel
theorem dX10_addEntry_29 : decode cX10_addEntry 29 = .ok (.iload_n 3, 1) := by decide +kernel
theorem dX10_addEntry_30 : decode cX10_addEntry 30 = .ok (.iconst 0, 1) := by decide +kernel
theorem dX10_addEntry_31 : decode cX10_addEntry 31 = .ok (.iload 4, 2) := by decide +kernel
theorem dX10_addEntry_33 : decode cX10_addEntry 33 = .ok (.invokestatic 81, 3) := by decide +kernel
theorem dX10_addEntry_36 : decode cX10_addEntry 36 = .ok (.ifCond .ne 6, 3) := by decide +kernel
theorem dX10_addEntry_39 : decode cX10_addEntry 39 = .ok (.ldc 59, 2) := by decide +kernel
theorem dX10_addEntry_41 : decode cX10_addEntry 41 = .ok (.ireturn, 1) := by decide +kernel
theorem dX10_addEntry_42 : decode cX10_addEntry 42 = .ok (.iload 4, 2) := by decide +kernel
theorem dX10_addEntry_44 : decode cX10_addEntry 44 = .ok (.bipush 16, 2) := by decide +kernel
theorem dX10_addEntry_46 : decode cX10_addEntry 46 = .ok (.if_icmp .lt 6, 3) := by decide +kernel
theorem dX10_addEntry_49 : decode cX10_addEntry 49 = .ok (.ldc 107, 2) := by decide +kernel
theorem dX10_addEntry_51 : decode cX10_addEntry 51 = .ok (.ireturn, 1) := by decide +kernel
theorem dX10_addEntry_52 : decode cX10_addEntry 52 = .ok (.aload_n 0, 1) := by decide +kernel
theorem dX10_addEntry_53 : decode cX10_addEntry 53 = .ok (.getfield 19, 3) := by decide +kernel
theorem dX10_addEntry_56 : decode cX10_addEntry 56 = .ok (.aload_n 0, 1) := by decide +kernel
theorem dX10_addEntry_57 : decode cX10_addEntry 57 = .ok (.getfield 10, 3) := by decide +kernel
theorem dX10_addEntry_60 : decode cX10_addEntry 60 = .ok (.invokevirtual 60, 3) := by decide +kernel
theorem dX10_addEntry_63 : decode cX10_addEntry 63 = .ok (.aload_n 0, 1) := by decide +kernel
theorem dX10_addEntry_64 : decode cX10_addEntry 64 = .ok (.getfield 10, 3) := by decide +kernel
theorem dX10_addEntry_67 : decode cX10_addEntry 67 = .ok (.getfield 64, 3) := by decide +kernel
theorem dX10_addEntry_70 : decode cX10_addEntry 70 = .ok (.iload_n 1, 1) := by decide +kernel
theorem dX10_addEntry_71 : decode cX10_addEntry 71 = .ok (.iload_n 2, 1) := by decide +kernel
theorem dX10_addEntry_72 : decode cX10_addEntry 72 = .ok (.iload_n 3, 1) := by decide +kernel
theorem dX10_addEntry_73 : decode cX10_addEntry 73 = .ok (.invokevirtual 108, 3) := by decide +kernel
theorem dX10_addEntry_76 : decode cX10_addEntry 76 = .ok (.aload_n 0, 1) := by decide +kernel
theorem dX10_addEntry_77 : decode cX10_addEntry 77 = .ok (.getfield 10, 3) := by decide +kernel
theorem dX10_addEntry_80 : decode cX10_addEntry 80 = .ok (.getfield 64, 3) := by decide +kernel
theorem dX10_addEntry_83 : decode cX10_addEntry 83 = .ok (.getfield 100, 3) := by decide +kernel
theorem dX10_addEntry_86 : decode cX10_addEntry 86 = .ok (.ireturn, 1) := by decide +kernel
set_option maxRecDepth 20000 in
theorem ggX10_removeEntry_X10_isEntry : GoodIn wsX10_removeEntry wsX10_isEntry := goodIn_r _ [10, 3, 4, 5, 11, 12, 9, 13, 97, 98, 99, 100, 101, 102, 103, 104, 105, 106, 107, 108, 109, 110, 111, 112, 113] (by decide +kernel) (by decide +kernel)
set_option maxRecDepth 20000 in
theorem gX10_removeEntry_X10_isEntry : GoodIn wsX10_removeEntry (wsV RX10 111 RX10 yX10_isEntry wsX10_isEntry) := goodIn_app (goodIn_of _ (by decide +kernel)) ggX10_removeEntry_X10_isEntry
set_option maxRecDepth 20000 in
theorem ggX10_removeEntry_X1_keep : GoodIn wsX10_removeEntry wsX1_keep := goodIn_r _ [18, 19, 20, 21, 22, 23, 24, 25, 26, 27, 17, 28, 29, 30, 31, 32, 33, 34, 35, 36, 37, 38, 39, 40, 41, 42, 43, 44, 45, 46, 47, 48, 49, 50, 51, 52, 53, 54, 55, 56, 57, 58, 59, 60, 61, 62, 63, 64, 65, 66, 67, 68, 69, 70, 71, 72, 73, 74, 75, 76, 77, 78, 79, 114, 115, 116, 103, 104, 105, 106, 107, 108, 109, 110, 111, 112, 113, 117, 118, 119, 120, 121, 122, 123] (by decide +kernel) (by decide +kernel)
set_option maxRecDepth 20000 in
theorem gX10_removeEntry_X1_keep : GoodIn wsX10_removeEntry (wsV RX10 60 RX1 yX1_keep wsX1_keep) := goodIn_app (goodIn_of _ (by decide +kernel)) ggX10_removeEntry_X1_keep
set_option maxRecDepth 20000 in
theorem ggX10_removeEntry_X3_removeAt : GoodIn wsX10_removeEntry wsX3_removeAt := goodIn_r _ [83, 50, 48, 84, 85, 86, 54, 87, 88, 89, 90, 91, 92, 56, 93, 94, 95, 96, 110, 111, 112, 113, 117, 118] (by decide +kernel) (by decide +kernel)
set_option maxRecDepth 20000 in
theorem gX10_removeEntry_X3_removeAt : GoodIn wsX10_removeEntry (wsV RX10 114 RX3 yX3_removeAt wsX3_removeAt) := goodIn_app (goodIn_of _ (by decide +kernel)) ggX10_removeEntry_X3_removeAt
theorem dX10_removeEntry_0 : decode cX10_removeEntry 0 = .ok (.aload_n 0, 1) := by decide +kernel
theorem dX10_removeEntry_1 : decode cX10_removeEntry 1 = .ok (.iload_n 1, 1) := by decide +kernel
theorem dX10_removeEntry_2 : decode cX10_removeEntry 2 = .ok (.invokevirtual 111, 3) := by decide +kernel
theorem dX10_removeEntry_5 : decode cX10_removeEntry 5 = .ok (.ifCond .ne 6, 3) := by decide +kernel
theorem dX10_removeEntry_8 : decode cX10_removeEntry 8 = .ok (.ldc 59, 2) := by decide +kernel
theorem dX10_removeEntry_10 : decode cX10_removeEntry 10 = .ok (.ireturn, 1) := by decide +kernel
theorem dX10_removeEntry_11 : decode cX10_removeEntry 11 = .ok (.aload_n 0, 1) := by decide +kernel
theorem dX10_removeEntry_12 : decode cX10_removeEntry 12 = .ok (.getfield 19, 3) := by decide +kernel
theorem dX10_removeEntry_15 : decode cX10_removeEntry 15 = .ok (.aload_n 0, 1) := by decide +kernel
theorem dX10_removeEntry_16 : decode cX10_removeEntry 16 = .ok (.getfield 10, 3) := by decide +kernel
theorem dX10_removeEntry_19 : decode cX10_removeEntry 19 = .ok (.invokevirtual 60, 3) := by decide +kernel
theorem dX10_removeEntry_22 : decode cX10_removeEntry 22 = .ok (.aload_n 0, 1) := by decide +kernel
theorem dX10_removeEntry_23 : decode cX10_removeEntry 23 = .ok (.getfield 10, 3) := by decide +kernel
theorem dX10_removeEntry_26 : decode cX10_removeEntry 26 = .ok (.getfield 64, 3) := by decide +kernel
theorem dX10_removeEntry_29 : decode cX10_removeEntry 29 = .ok (.iload_n 1, 1) := by decide +kernel
theorem dX10_removeEntry_30 : decode cX10_removeEntry 30 = .ok (.invokevirtual 114, 3) := by decide +kernel
theorem dX10_removeEntry_33 : decode cX10_removeEntry 33 = .ok (.aload_n 0, 1) := by decide +kernel
theorem dX10_removeEntry_34 : decode cX10_removeEntry 34 = .ok (.getfield 10, 3) := by decide +kernel
theorem dX10_removeEntry_37 : decode cX10_removeEntry 37 = .ok (.getfield 64, 3) := by decide +kernel
theorem dX10_removeEntry_40 : decode cX10_removeEntry 40 = .ok (.getfield 100, 3) := by decide +kernel
theorem dX10_removeEntry_43 : decode cX10_removeEntry 43 = .ok (.ireturn, 1) := by decide +kernel
set_option maxRecDepth 20000 in
theorem ggX10_setSettle_X10_isEntry : GoodIn wsX10_setSettle wsX10_isEntry := goodIn_r _ [10, 3, 4, 11, 12, 13, 9, 14, 93, 94, 95, 96, 97, 98, 99, 100, 101, 102, 103, 104, 105, 106, 107, 108, 109] (by decide +kernel) (by decide +kernel)
set_option maxRecDepth 20000 in
theorem gX10_setSettle_X10_isEntry : GoodIn wsX10_setSettle (wsV RX10 111 RX10 yX10_isEntry wsX10_isEntry) := goodIn_app (goodIn_of _ (by decide +kernel)) ggX10_setSettle_X10_isEntry
set_option maxRecDepth 20000 in
theorem ggX10_setSettle_X10_isSettle : GoodIn wsX10_setSettle wsX10_isSettle := goodIn_r _ [17, 12, 13, 9, 14] (by decide +kernel) (by decide +kernel)
set_option maxRecDepth 20000 in
theorem gX10_setSettle_X10_isSettle : GoodIn wsX10_setSettle (va_wsS RX10 104 yX10_isSettle wsX10_isSettle) := goodIn_app (goodIn_of _ (by decide +kernel)) ggX10_setSettle_X10_isSettle
set_option maxRecDepth 20000 in
theorem ggX10_setSettle_X1_keep : GoodIn wsX10_setSettle wsX1_keep := goodIn_r _ [22, 23, 24, 25, 26, 27, 28, 29, 30, 31, 21, 32, 33, 34, 35, 36, 37, 38, 39, 40, 41, 42, 43, 44, 45, 46, 47, 48, 49, 50, 51, 52, 53, 54, 55, 56, 57, 58, 59, 60, 61, 62, 63, 64, 65, 66, 67, 68, 69, 70, 71, 72, 73, 74, 75, 76, 77, 78, 79, 80, 81, 82, 83, 110, 111, 112, 99, 100, 101, 102, 103, 104, 105, 106, 107, 108, 109, 113, 114, 115, 116, 117, 118, 119] (by decide +kernel) (by decide +kernel)
set_option maxRecDepth 20000 in
theorem gX10_setSettle_X1_keep : GoodIn wsX10_setSettle (wsV RX10 60 RX1 yX1_keep wsX1_keep) := goodIn_app (goodIn_of _ (by decide +kernel)) ggX10_setSettle_X1_keep
set_option maxRecDepth 20000 in
theorem ggX10_setSettle_X7_at : GoodIn wsX10_setSettle wsX7_at := goodIn_r _ [87, 88, 60, 113, 114] (by decide +kernel) (by decide +kernel)
set_option maxRecDepth 20000 in
theorem gX10_setSettle_X7_at : GoodIn wsX10_setSettle (wsV RX10 71 RX7 yX7_at wsX7_at) := goodIn_app (goodIn_of _ (by decide +kernel)) ggX10_setSettle_X7_at
set_option maxRecDepth 20000 in
theorem ggX10_setSettle_X7_put : GoodIn wsX10_setSettle wsX7_put := goodIn_r _ [92, 88, 60, 113, 114] (by decide +kernel) (by decide +kernel)
set_option maxRecDepth 20000 in
theorem gX10_setSettle_X7_put : GoodIn wsX10_setSettle (wsV RX10 85 RX7 yX7_put wsX7_put) := goodIn_app (goodIn_of _ (by decide +kernel)) ggX10_setSettle_X7_put
theorem dX10_setSettle_0 : decode cX10_setSettle 0 = .ok (.aload_n 0, 1) := by decide +kernel
theorem dX10_setSettle_1 : decode cX10_setSettle 1 = .ok (.iload_n 1, 1) := by decide +kernel
theorem dX10_setSettle_2 : decode cX10_setSettle 2 = .ok (.invokevirtual 111, 3) := by decide +kernel
theorem dX10_setSettle_5 : decode cX10_setSettle 5 = .ok (.ifCond .eq 10, 3) := by decide +kernel
theorem dX10_setSettle_8 : decode cX10_setSettle 8 = .ok (.iload_n 2, 1) := by decide +kernel
theorem dX10_setSettle_9 : decode cX10_setSettle 9 = .ok (.invokestatic 104, 3) := by decide +kernel
theorem dX10_setSettle_12 : decode cX10_setSettle 12 = .ok (.ifCond .ne 6, 3) := by decide +kernel
theorem dX10_setSettle_15 : decode cX10_setSettle 15 = .ok (.ldc 59, 2) := by decide +kernel
theorem dX10_setSettle_17 : decode cX10_setSettle 17 = .ok (.ireturn, 1) := by decide +kernel
theorem dX10_setSettle_18 : decode cX10_setSettle 18 = .ok (.aload_n 0, 1) := by decide +kernel
theorem dX10_setSettle_19 : decode cX10_setSettle 19 = .ok (.getfield 19, 3) := by decide +kernel
theorem dX10_setSettle_22 : decode cX10_setSettle 22 = .ok (.aload_n 0, 1) := by decide +kernel
theorem dX10_setSettle_23 : decode cX10_setSettle 23 = .ok (.getfield 10, 3) := by decide +kernel
theorem dX10_setSettle_26 : decode cX10_setSettle 26 = .ok (.invokevirtual 60, 3) := by decide +kernel
theorem dX10_setSettle_29 : decode cX10_setSettle 29 = .ok (.aload_n 0, 1) := by decide +kernel
theorem dX10_setSettle_30 : decode cX10_setSettle 30 = .ok (.getfield 10, 3) := by decide +kernel
theorem dX10_setSettle_33 : decode cX10_setSettle 33 = .ok (.getfield 64, 3) := by decide +kernel
theorem dX10_setSettle_36 : decode cX10_setSettle 36 = .ok (.getfield 118, 3) := by decide +kernel
theorem dX10_setSettle_39 : decode cX10_setSettle 39 = .ok (.iload_n 1, 1) := by decide +kernel
theorem dX10_setSettle_40 : decode cX10_setSettle 40 = .ok (.iconst 1, 1) := by decide +kernel
theorem dX10_setSettle_41 : decode cX10_setSettle 41 = .ok (.invokevirtual 71, 3) := by decide +kernel
theorem dX10_setSettle_44 : decode cX10_setSettle 44 = .ok (.istore_n 3, 1) := by decide +kernel
theorem dX10_setSettle_45 : decode cX10_setSettle 45 = .ok (.aload_n 0, 1) := by decide +kernel
theorem dX10_setSettle_46 : decode cX10_setSettle 46 = .ok (.getfield 10, 3) := by decide +kernel
theorem dX10_setSettle_49 : decode cX10_setSettle 49 = .ok (.getfield 64, 3) := by decide +kernel
theorem dX10_setSettle_52 : decode cX10_setSettle 52 = .ok (.getfield 118, 3) := by decide +kernel
theorem dX10_setSettle_55 : decode cX10_setSettle 55 = .ok (.iload_n 1, 1) := by decide +kernel
theorem dX10_setSettle_56 : decode cX10_setSettle 56 = .ok (.iconst 1, 1) := by decide +kernel
theorem dX10_setSettle_57 : decode cX10_setSettle 57 = .ok (.iload_n 2, 1) := by decide +kernel
theorem dX10_setSettle_58 : decode cX10_setSettle 58 = .ok (.invokevirtual 85, 3) := by decide +kernel
theorem dX10_setSettle_61 : decode cX10_setSettle 61 = .ok (.iload_n 3, 1) := by decide +kernel
theorem dX10_setSettle_62 : decode cX10_setSettle 62 = .ok (.ireturn, 1) := by decide +kernel
set_option maxRecDepth 20000 in
theorem ggX10_order_X10_isWithin : GoodIn wsX10_order wsX10_isWithin := goodIn_r _ [9] (by decide +kernel) (by decide +kernel)
set_option maxRecDepth 20000 in
theorem gX10_order_X10_isWithin : GoodIn wsX10_order (va_wsS RX10 81 yX10_isWithin wsX10_isWithin) := goodIn_app (goodIn_of _ (by decide +kernel)) ggX10_order_X10_isWithin
set_option maxRecDepth 20000 in
theorem ggX10_order_X1_keep : GoodIn wsX10_order wsX1_keep := goodIn_r _ [14, 15, 16, 17, 18, 19, 20, 21, 22, 23, 13, 24, 25, 26, 27, 28, 29, 30, 31, 32, 33, 34, 35, 36, 37, 38, 39, 40, 41, 42, 43, 44, 45, 46, 47, 48, 49, 50, 51, 52, 53, 54, 55, 56, 57, 58, 59, 60, 61, 62, 63, 64, 65, 66, 67, 68, 69, 70, 71, 72, 73, 74, 75, 151, 152, 153, 144, 145, 146, 147, 148, 149, 150, 154, 155, 156, 157, 158, 159, 160, 161, 162, 163, 164] (by decide +kernel) (by decide +kernel)
set_option maxRecDepth 20000 in
theorem gX10_order_X1_keep : GoodIn wsX10_order (wsV RX10 60 RX1 yX1_keep wsX1_keep) := goodIn_app (goodIn_of _ (by decide +kernel)) ggX10_order_X1_keep
set_option maxRecDepth 20000 in
theorem ggX10_order_X6_time : GoodIn wsX10_order wsX6_time := goodIn_r _ [79, 34, 80, 81, 82, 50, 83, 84, 52, 144, 145, 146, 147, 148, 149, 150, 158, 159] (by decide +kernel) (by decide +kernel)
set_option maxRecDepth 20000 in
theorem gX10_order_X6_time : GoodIn wsX10_order (wsV RX10 121 RX6 yX6_time wsX6_time) := goodIn_app (goodIn_of _ (by decide +kernel)) ggX10_order_X6_time
set_option maxRecDepth 20000 in
theorem ggX10_order_X5_arrange : GoodIn wsX10_order wsX5_arrange := goodIn_r _ [89, 90, 91, 92, 93, 94, 95, 88, 96, 97, 81, 82, 50, 83, 84, 52, 98, 99, 100, 41, 101, 43, 102, 103, 104, 105, 106, 107, 18, 19, 20, 108, 109, 110, 111, 112, 113, 114, 45, 115, 116, 117, 118, 119, 120, 121, 122, 123, 124, 125, 126, 127, 128, 129, 130, 131, 132, 133, 134, 135, 136, 137, 48, 49, 51, 53, 54, 55, 56, 57, 154, 155, 156, 157, 165, 166, 167, 158, 159] (by decide +kernel) (by decide +kernel)
set_option maxRecDepth 20000 in
theorem gX10_order_X5_arrange : GoodIn wsX10_order (wsV RX10 125 RX5 yX5_arrange wsX5_arrange) := goodIn_app (goodIn_of _ (by decide +kernel)) ggX10_order_X5_arrange
theorem dX10_order_0 : decode cX10_order 0 = .ok (.iload_n 1, 1) := by decide +kernel
theorem dX10_order_1 : decode cX10_order 1 = .ok (.iconst 0, 1) := by decide +kernel
theorem dX10_order_2 : decode cX10_order 2 = .ok (.iconst 3, 1) := by decide +kernel
theorem dX10_order_3 : decode cX10_order 3 = .ok (.invokestatic 81, 3) := by decide +kernel
theorem dX10_order_6 : decode cX10_order 6 = .ok (.ifCond .ne 6, 3) := by decide +kernel
theorem dX10_order_9 : decode cX10_order 9 = .ok (.ldc 59, 2) := by decide +kernel
theorem dX10_order_11 : decode cX10_order 11 = .ok (.ireturn, 1) := by decide +kernel
theorem dX10_order_12 : decode cX10_order 12 = .ok (.aload_n 0, 1) := by decide +kernel
theorem dX10_order_13 : decode cX10_order 13 = .ok (.getfield 19, 3) := by decide +kernel
theorem dX10_order_16 : decode cX10_order 16 = .ok (.aload_n 0, 1) := by decide +kernel
theorem dX10_order_17 : decode cX10_order 17 = .ok (.getfield 10, 3) := by decide +kernel
theorem dX10_order_20 : decode cX10_order 20 = .ok (.invokevirtual 60, 3) := by decide +kernel
theorem dX10_order_23 : decode cX10_order 23 = .ok (.aload_n 0, 1) := by decide +kernel
theorem dX10_order_24 : decode cX10_order 24 = .ok (.getfield 33, 3) := by decide +kernel
theorem dX10_order_27 : decode cX10_order 27 = .ok (.aload_n 0, 1) := by decide +kernel
theorem dX10_order_28 : decode cX10_order 28 = .ok (.getfield 10, 3) := by decide +kernel
theorem dX10_order_31 : decode cX10_order 31 = .ok (.getfield 64, 3) := by decide +kernel
theorem dX10_order_34 : decode cX10_order 34 = .ok (.iload_n 1, 1) := by decide +kernel
theorem dX10_order_35 : decode cX10_order 35 = .ok (.aload_n 0, 1) := by decide +kernel
theorem dX10_order_36 : decode cX10_order 36 = .ok (.getfield 10, 3) := by decide +kernel
theorem dX10_order_39 : decode cX10_order 39 = .ok (.invokevirtual 121, 3) := by decide +kernel
theorem dX10_order_42 : decode cX10_order 42 = .ok (.invokevirtual 125, 3) := by decide +kernel
theorem dX10_order_45 : decode cX10_order 45 = .ok (.ireturn, 1) := by decide +kernel
set_option maxRecDepth 20000 in
theorem ggX10_scan_X10_isWithin : GoodIn wsX10_scan wsX10_isWithin := goodIn_r _ [14] (by decide +kernel) (by decide +kernel)
set_option maxRecDepth 20000 in
theorem gX10_scan_X10_isWithin : GoodIn wsX10_scan (va_wsS RX10 81 yX10_isWithin wsX10_isWithin) := goodIn_app (goodIn_of _ (by decide +kernel)) ggX10_scan_X10_isWithin
set_option maxRecDepth 20000 in
theorem ggX10_scan_X6_time : GoodIn wsX10_scan wsX6_time := goodIn_r _ [19, 20, 21, 22, 23, 24, 25, 26, 27, 201, 202, 203, 204, 205, 206, 207, 212, 213] (by decide +kernel) (by decide +kernel)
set_option maxRecDepth 20000 in
theorem gX10_scan_X6_time : GoodIn wsX10_scan (wsV RX10 121 RX6 yX6_time wsX6_time) := goodIn_app (goodIn_of _ (by decide +kernel)) ggX10_scan_X6_time
set_option maxRecDepth 20000 in
theorem ggX10_scan_X3_slotsOfScan : GoodIn wsX10_scan wsX3_slotsOfScan := goodIn_r _ [32, 33, 34, 35, 36, 31, 37, 38, 39, 22, 23, 24, 25, 26, 27, 208, 209, 210, 211, 212, 213] (by decide +kernel) (by decide +kernel)
set_option maxRecDepth 20000 in
theorem gX10_scan_X3_slotsOfScan : GoodIn wsX10_scan (wsV RX10 130 RX3 yX3_slotsOfScan wsX3_slotsOfScan) := goodIn_app (goodIn_of _ (by decide +kernel)) ggX10_scan_X3_slotsOfScan
set_option maxRecDepth 20000 in
theorem ggX10_scan_X1_keep : GoodIn wsX10_scan wsX1_keep := goodIn_r _ [44, 45, 46, 47, 48, 49, 50, 51, 52, 53, 43, 54, 55, 56, 57, 58, 18, 59, 60, 61, 62, 20, 63, 64, 65, 66, 67, 68, 31, 69, 70, 38, 71, 33, 72, 73, 74, 24, 75, 27, 76, 77, 78, 79, 80, 81, 82, 83, 84, 85, 86, 87, 88, 89, 90, 91, 92, 93, 94, 95, 96, 97, 98, 214, 215, 216, 201, 202, 203, 204, 205, 206, 207, 208, 209, 210, 211, 212, 213, 217, 218, 219, 220, 221] (by decide +kernel) (by decide +kernel)
set_option maxRecDepth 20000 in
theorem gX10_scan_X1_keep : GoodIn wsX10_scan (wsV RX10 60 RX1 yX1_keep wsX1_keep) := goodIn_app (goodIn_of _ (by decide +kernel)) ggX10_scan_X1_keep
set_option maxRecDepth 20000 in
theorem ggX10_scan_X7_at : GoodIn wsX10_scan wsX7_at := goodIn_r _ [25, 26, 27, 212, 213] (by decide +kernel) (by decide +kernel)
set_option maxRecDepth 20000 in
theorem gX10_scan_X7_at : GoodIn wsX10_scan (wsV RX10 71 RX7 yX7_at wsX7_at) := goodIn_app (goodIn_of _ (by decide +kernel)) ggX10_scan_X7_at
set_option maxRecDepth 20000 in
theorem ggX10_scan_X0_start : GoodIn wsX10_scan wsX0_start := goodIn_r _ [104, 105, 106, 222, 223, 224, 225, 226] (by decide +kernel) (by decide +kernel)
set_option maxRecDepth 20000 in
theorem gX10_scan_X0_start : GoodIn wsX10_scan (wsV RX10 140 RX0 yX0_start wsX0_start) := goodIn_app (goodIn_of _ (by decide +kernel)) ggX10_scan_X0_start
set_option maxRecDepth 20000 in
theorem ggX10_scan_X10_scanOnce : GoodIn wsX10_scan wsX10_scanOnce := goodIn_r _ [110, 2, 3, 4, 9, 111, 112, 113, 114, 103, 115, 116, 117, 22, 23, 24, 25, 26, 27, 118, 119, 120, 121, 106, 122, 105, 123, 124, 125, 126, 127, 31, 128, 70, 39, 129, 130, 131, 132, 133, 48, 49, 50, 134, 135, 136, 137, 138, 139, 140, 71, 141, 142, 143, 144, 145, 146, 147, 148, 149, 150, 151, 152, 153, 154, 155, 13, 156, 157, 158, 159, 99, 160, 35, 36, 37, 38, 161, 162, 163, 18, 164, 61, 62, 165, 166, 167, 168, 169, 170, 65, 171, 172, 173, 84, 174, 86, 87, 175, 176, 177, 88, 178, 179, 180, 181, 182, 183, 184, 185, 186, 187, 188, 189, 190, 191, 192, 193, 194, 20, 21, 195, 196, 197, 198, 199, 200, 201, 202, 203, 204, 205, 206, 207, 208, 209, 210, 211, 212, 213, 222, 223, 224, 225, 226, 217, 218, 219] (by decide +kernel) (by decide +kernel)
set_option maxRecDepth 20000 in
theorem gX10_scan_X10_scanOnce : GoodIn wsX10_scan (wsV RX10 144 RX10 yX10_scanOnce wsX10_scanOnce) := goodIn_app (goodIn_of _ (by decide +kernel)) ggX10_scan_X10_scanOnce
theorem dX10_scan_0 : decode cX10_scan 0 = .ok (.iload_n 1, 1) := by decide +kernel
theorem dX10_scan_1 : decode cX10_scan 1 = .ok (.iconst 1, 1) := by decide +kernel
theorem dX10_scan_2 : decode cX10_scan 2 = .ok (.bipush 20, 2) := by decide +kernel
theorem dX10_scan_4 : decode cX10_scan 4 = .ok (.invokestatic 81, 3) := by decide +kernel
theorem dX10_scan_7 : decode cX10_scan 7 = .ok (.ifCond .ne 6, 3) := by decide +kernel
theorem dX10_scan_10 : decode cX10_scan 10 = .ok (.ldc 59, 2) := by decide +kernel
theorem dX10_scan_12 : decode cX10_scan 12 = .ok (.ireturn, 1) := by decide +kernel
theorem dX10_scan_13 : decode cX10_scan 13 = .ok (.aload_n 0, 1) := by decide +kernel
theorem dX10_scan_14 : decode cX10_scan 14 = .ok (.getfield 10, 3) := by decide +kernel
theorem dX10_scan_17 : decode cX10_scan 17 = .ok (.getfield 64, 3) := by decide +kernel
theorem dX10_scan_20 : decode cX10_scan 20 = .ok (.getfield 100, 3) := by decide +kernel
theorem dX10_scan_23 : decode cX10_scan 23 = .ok (.ifCond .ne 6, 3) := by decide +kernel
theorem dX10_scan_26 : decode cX10_scan 26 = .ok (.ldc 129, 2) := by decide +kernel
theorem dX10_scan_28 : decode cX10_scan 28 = .ok (.ireturn, 1) := by decide +kernel
theorem dX10_scan_29 : decode cX10_scan 29 = .ok (.aload_n 0, 1) := by decide +kernel
theorem dX10_scan_30 : decode cX10_scan 30 = .ok (.getfield 10, 3) := by decide +kernel
theorem dX10_scan_33 : decode cX10_scan 33 = .ok (.invokevirtual 121, 3) := by decide +kernel
theorem dX10_scan_36 : decode cX10_scan 36 = .ok (.iload_n 1, 1) := by decide +kernel
theorem dX10_scan_37 : decode cX10_scan 37 = .ok (.aload_n 0, 1) := by decide +kernel
theorem dX10_scan_38 : decode cX10_scan 38 = .ok (.getfield 10, 3) := by decide +kernel
theorem dX10_scan_41 : decode cX10_scan 41 = .ok (.getfield 64, 3) := by decide +kernel
theorem dX10_scan_44 : decode cX10_scan 44 = .ok (.invokevirtual 130, 3) := by decide +kernel
theorem dX10_scan_47 : decode cX10_scan 47 = .ok (.imul, 1) := by decide +kernel
theorem dX10_scan_48 : decode cX10_scan 48 = .ok (.iadd, 1) := by decide +kernel
theorem dX10_scan_49 : decode cX10_scan 49 = .ok (.sipush 9999, 3) := by decide +kernel
theorem dX10_scan_52 : decode cX10_scan 52 = .ok (.if_icmp .le 6, 3) := by decide +kernel
theorem dX10_scan_55 : decode cX10_scan 55 = .ok (.ldc 107, 2) := by decide +kernel
theorem dX10_scan_57 : decode cX10_scan 57 = .ok (.ireturn, 1) := by decide +kernel
theorem dX10_scan_58 : decode cX10_scan 58 = .ok (.aload_n 0, 1) := by decide +kernel
theorem dX10_scan_59 : decode cX10_scan 59 = .ok (.getfield 19, 3) := by decide +kernel
theorem dX10_scan_62 : decode cX10_scan 62 = .ok (.aload_n 0, 1) := by decide +kernel
theorem dX10_scan_63 : decode cX10_scan 63 = .ok (.getfield 10, 3) := by decide +kernel
theorem dX10_scan_66 : decode cX10_scan 66 = .ok (.invokevirtual 60, 3) := by decide +kernel
theorem dX10_scan_69 : decode cX10_scan 69 = .ok (.aload_n 0, 1) := by decide +kernel
theorem dX10_scan_70 : decode cX10_scan 70 = .ok (.getfield 10, 3) := by decide +kernel
theorem dX10_scan_73 : decode cX10_scan 73 = .ok (.getfield 133, 3) := by decide +kernel
theorem dX10_scan_76 : decode cX10_scan 76 = .ok (.iconst 5, 1) := by decide +kernel
theorem dX10_scan_77 : decode cX10_scan 77 = .ok (.iconst 0, 1) := by decide +kernel
theorem dX10_scan_78 : decode cX10_scan 78 = .ok (.invokevirtual 71, 3) := by decide +kernel
theorem dX10_scan_81 : decode cX10_scan 81 = .ok (.istore_n 2, 1) := by decide +kernel
theorem dX10_scan_82 : decode cX10_scan 82 = .ok (.aload_n 0, 1) := by decide +kernel
theorem dX10_scan_83 : decode cX10_scan 83 = .ok (.getfield 26, 3) := by decide +kernel
theorem dX10_scan_86 : decode cX10_scan 86 = .ok (.aload_n 0, 1) := by decide +kernel
theorem dX10_scan_87 : decode cX10_scan 87 = .ok (.getfield 10, 3) := by decide +kernel
theorem dX10_scan_90 : decode cX10_scan 90 = .ok (.getfield 136, 3) := by decide +kernel
theorem dX10_scan_93 : decode cX10_scan 93 = .ok (.aload_n 0, 1) := by decide +kernel
theorem dX10_scan_94 : decode cX10_scan 94 = .ok (.getfield 10, 3) := by decide +kernel
theorem dX10_scan_97 : decode cX10_scan 97 = .ok (.invokevirtual 121, 3) := by decide +kernel
theorem dX10_scan_100 : decode cX10_scan 100 = .ok (.invokevirtual 140, 3) := by decide +kernel
theorem dX10_scan_103 : decode cX10_scan 103 = .ok (.iconst 0, 1) := by decide +kernel
theorem dX10_scan_104 : decode cX10_scan 104 = .ok (.istore_n 3, 1) := by decide +kernel
theorem dX10_scan_105 : decode cX10_scan 105 = .ok (.iload_n 3, 1) := by decide +kernel
theorem dX10_scan_106 : decode cX10_scan 106 = .ok (.iload_n 1, 1) := by decide +kernel
theorem dX10_scan_107 : decode cX10_scan 107 = .ok (.if_icmp .ge 13, 3) := by decide +kernel
theorem dX10_scan_110 : decode cX10_scan 110 = .ok (.aload_n 0, 1) := by decide +kernel
theorem dX10_scan_111 : decode cX10_scan 111 = .ok (.invokevirtual 144, 3) := by decide +kernel
theorem dX10_scan_114 : decode cX10_scan 114 = .ok (.iinc 3 1, 3) := by decide +kernel
theorem dX10_scan_117 : decode cX10_scan 117 = .ok (.goto (-12), 3) := by decide +kernel
theorem dX10_scan_120 : decode cX10_scan 120 = .ok (.aload_n 0, 1) := by decide +kernel
theorem dX10_scan_121 : decode cX10_scan 121 = .ok (.getfield 10, 3) := by decide +kernel
theorem dX10_scan_124 : decode cX10_scan 124 = .ok (.getfield 133, 3) := by decide +kernel
theorem dX10_scan_127 : decode cX10_scan 127 = .ok (.iconst 5, 1) := by decide +kernel
theorem dX10_scan_128 : decode cX10_scan 128 = .ok (.iconst 0, 1) := by decide +kernel
theorem dX10_scan_129 : decode cX10_scan 129 = .ok (.invokevirtual 71, 3) := by decide +kernel
theorem dX10_scan_132 : decode cX10_scan 132 = .ok (.iload_n 2, 1) := by decide +kernel
theorem dX10_scan_133 : decode cX10_scan 133 = .ok (.isub, 1) := by decide +kernel
theorem dX10_scan_134 : decode cX10_scan 134 = .ok (.ireturn, 1) := by decide +kernel
set_option maxRecDepth 20000 in
theorem ggX10_pass_X10_isWithin : GoodIn wsX10_pass wsX10_isWithin := goodIn_r _ [8] (by decide +kernel) (by decide +kernel)
set_option maxRecDepth 20000 in
theorem gX10_pass_X10_isWithin : GoodIn wsX10_pass (va_wsS RX10 81 yX10_isWithin wsX10_isWithin) := goodIn_app (goodIn_of _ (by decide +kernel)) ggX10_pass_X10_isWithin
set_option maxRecDepth 20000 in
theorem ggX10_pass_X6_time : GoodIn wsX10_pass wsX6_time := goodIn_r _ [13, 14, 15, 16, 17, 18, 19, 20, 21, 98, 99, 100, 101, 102, 103, 104, 105, 106] (by decide +kernel) (by decide +kernel)
set_option maxRecDepth 20000 in
theorem gX10_pass_X6_time : GoodIn wsX10_pass (wsV RX10 121 RX6 yX6_time wsX6_time) := goodIn_app (goodIn_of _ (by decide +kernel)) ggX10_pass_X6_time
set_option maxRecDepth 20000 in
theorem ggX10_pass_X1_keep : GoodIn wsX10_pass wsX1_keep := goodIn_r _ [26, 27, 28, 29, 30, 31, 32, 33, 34, 35, 25, 36, 37, 38, 39, 40, 12, 41, 42, 43, 44, 14, 45, 46, 47, 48, 49, 50, 51, 52, 53, 54, 55, 56, 57, 58, 59, 18, 60, 21, 61, 62, 63, 64, 65, 66, 67, 68, 69, 70, 71, 72, 73, 74, 75, 76, 77, 78, 79, 80, 81, 82, 83, 107, 108, 109, 98, 99, 100, 101, 102, 103, 104, 110, 111, 112, 113, 105, 106, 114, 115, 116, 117, 118] (by decide +kernel) (by decide +kernel)
set_option maxRecDepth 20000 in
theorem gX10_pass_X1_keep : GoodIn wsX10_pass (wsV RX10 60 RX1 yX1_keep wsX1_keep) := goodIn_app (goodIn_of _ (by decide +kernel)) ggX10_pass_X1_keep
set_option maxRecDepth 20000 in
theorem ggX10_pass_X6_addTo : GoodIn wsX10_pass wsX6_addTo := goodIn_r _ [87, 14, 15, 16, 17, 18, 19, 20, 21, 88, 89, 90, 91, 98, 99, 100, 101, 102, 103, 104, 105, 106] (by decide +kernel) (by decide +kernel)
set_option maxRecDepth 20000 in
theorem gX10_pass_X6_addTo : GoodIn wsX10_pass (wsV RX10 147 RX6 yX6_addTo wsX6_addTo) := goodIn_app (goodIn_of _ (by decide +kernel)) ggX10_pass_X6_addTo
theorem dX10_pass_0 : decode cX10_pass 0 = .ok (.iload_n 1, 1) := by decide +kernel
theorem dX10_pass_1 : decode cX10_pass 1 = .ok (.iconst 1, 1) := by decide +kernel
theorem dX10_pass_2 : decode cX10_pass 2 = .ok (.sipush 1000, 3) := by decide +kernel
theorem dX10_pass_5 : decode cX10_pass 5 = .ok (.invokestatic 81, 3) := by decide +kernel
theorem dX10_pass_8 : decode cX10_pass 8 = .ok (.ifCond .ne 6, 3) := by decide +kernel
theorem dX10_pass_11 : decode cX10_pass 11 = .ok (.ldc 59, 2) := by decide +kernel
theorem dX10_pass_13 : decode cX10_pass 13 = .ok (.ireturn, 1) := by decide +kernel
theorem dX10_pass_14 : decode cX10_pass 14 = .ok (.aload_n 0, 1) := by decide +kernel
theorem dX10_pass_15 : decode cX10_pass 15 = .ok (.getfield 10, 3) := by decide +kernel
theorem dX10_pass_18 : decode cX10_pass 18 = .ok (.invokevirtual 121, 3) := by decide +kernel
theorem dX10_pass_21 : decode cX10_pass 21 = .ok (.iload_n 1, 1) := by decide +kernel
theorem dX10_pass_22 : decode cX10_pass 22 = .ok (.iadd, 1) := by decide +kernel
theorem dX10_pass_23 : decode cX10_pass 23 = .ok (.sipush 9999, 3) := by decide +kernel
theorem dX10_pass_26 : decode cX10_pass 26 = .ok (.if_icmp .le 6, 3) := by decide +kernel
theorem dX10_pass_29 : decode cX10_pass 29 = .ok (.ldc 107, 2) := by decide +kernel
theorem dX10_pass_31 : decode cX10_pass 31 = .ok (.ireturn, 1) := by decide +kernel
theorem dX10_pass_32 : decode cX10_pass 32 = .ok (.aload_n 0, 1) := by decide +kernel
theorem dX10_pass_33 : decode cX10_pass 33 = .ok (.getfield 19, 3) := by decide +kernel
theorem dX10_pass_36 : decode cX10_pass 36 = .ok (.aload_n 0, 1) := by decide +kernel
theorem dX10_pass_37 : decode cX10_pass 37 = .ok (.getfield 10, 3) := by decide +kernel
theorem dX10_pass_40 : decode cX10_pass 40 = .ok (.invokevirtual 60, 3) := by decide +kernel
theorem dX10_pass_43 : decode cX10_pass 43 = .ok (.aload_n 0, 1) := by decide +kernel
theorem dX10_pass_44 : decode cX10_pass 44 = .ok (.getfield 10, 3) := by decide +kernel
theorem dX10_pass_47 : decode cX10_pass 47 = .ok (.iconst 3, 1) := by decide +kernel
theorem dX10_pass_48 : decode cX10_pass 48 = .ok (.iload_n 1, 1) := by decide +kernel
theorem dX10_pass_49 : decode cX10_pass 49 = .ok (.invokevirtual 147, 3) := by decide +kernel
theorem dX10_pass_52 : decode cX10_pass 52 = .ok (.aload_n 0, 1) := by decide +kernel
theorem dX10_pass_53 : decode cX10_pass 53 = .ok (.getfield 10, 3) := by decide +kernel
theorem dX10_pass_56 : decode cX10_pass 56 = .ok (.invokevirtual 121, 3) := by decide +kernel
theorem dX10_pass_59 : decode cX10_pass 59 = .ok (.ireturn, 1) := by decide +kernel
set_option maxRecDepth 20000 in
theorem ggX10_take_X10_isSnapshotPlace : GoodIn wsX10_take wsX10_isSnapshotPlace := goodIn_r _ [11, 12, 13, 10, 14] (by decide +kernel) (by decide +kernel)
set_option maxRecDepth 20000 in
theorem gX10_take_X10_isSnapshotPlace : GoodIn wsX10_take (va_wsS RX10 151 yX10_isSnapshotPlace wsX10_isSnapshotPlace) := goodIn_app (goodIn_of _ (by decide +kernel)) ggX10_take_X10_isSnapshotPlace
set_option maxRecDepth 20000 in
theorem ggX10_take_X1_keep : GoodIn wsX10_take wsX1_keep := goodIn_r _ [19, 20, 21, 22, 23, 24, 25, 26, 27, 28, 18, 29, 30, 31, 32, 33, 34, 35, 36, 37, 38, 39, 40, 41, 42, 43, 44, 45, 46, 47, 48, 49, 50, 51, 52, 53, 54, 55, 56, 57, 58, 59, 60, 61, 62, 63, 64, 65, 66, 67, 68, 69, 70, 71, 72, 73, 74, 75, 76, 77, 78, 79, 80, 105, 106, 107, 94, 95, 96, 97, 98, 99, 100, 101, 102, 103, 104, 108, 109, 110, 111, 112, 92, 93] (by decide +kernel) (by decide +kernel)
set_option maxRecDepth 20000 in
theorem gX10_take_X1_keep : GoodIn wsX10_take (wsV RX10 60 RX1 yX1_keep wsX1_keep) := goodIn_app (goodIn_of _ (by decide +kernel)) ggX10_take_X1_keep
set_option maxRecDepth 20000 in
theorem ggX10_take_X6_snapshotAt : GoodIn wsX10_take wsX6_snapshotAt := goodIn_r _ [84, 40, 41, 94, 95, 96, 97, 98, 99, 100] (by decide +kernel) (by decide +kernel)
set_option maxRecDepth 20000 in
theorem gX10_take_X6_snapshotAt : GoodIn wsX10_take (wsV RX10 154 RX6 yX6_snapshotAt wsX6_snapshotAt) := goodIn_app (goodIn_of _ (by decide +kernel)) ggX10_take_X6_snapshotAt
set_option maxRecDepth 20000 in
theorem ggX10_take_X3_copyFrom : GoodIn wsX10_take wsX3_copyFrom := goodIn_r _ [47, 48, 49, 50, 51, 52, 53, 54, 55, 56, 57, 58, 23, 24, 25, 59, 60, 61, 62, 101, 102, 103, 104, 108, 109] (by decide +kernel) (by decide +kernel)
set_option maxRecDepth 20000 in
theorem gX10_take_X3_copyFrom : GoodIn wsX10_take (wsV RX10 165 RX3 yX3_copyFrom wsX3_copyFrom) := goodIn_app (goodIn_of _ (by decide +kernel)) ggX10_take_X3_copyFrom
theorem dX10_take_0 : decode cX10_take 0 = .ok (.iload_n 1, 1) := by decide +kernel
theorem dX10_take_1 : decode cX10_take 1 = .ok (.invokestatic 151, 3) := by decide +kernel
theorem dX10_take_4 : decode cX10_take 4 = .ok (.ifCond .ne 6, 3) := by decide +kernel
theorem dX10_take_7 : decode cX10_take 7 = .ok (.ldc 59, 2) := by decide +kernel
theorem dX10_take_9 : decode cX10_take 9 = .ok (.ireturn, 1) := by decide +kernel
theorem dX10_take_10 : decode cX10_take 10 = .ok (.aload_n 0, 1) := by decide +kernel
theorem dX10_take_11 : decode cX10_take 11 = .ok (.getfield 19, 3) := by decide +kernel
theorem dX10_take_14 : decode cX10_take 14 = .ok (.aload_n 0, 1) := by decide +kernel
theorem dX10_take_15 : decode cX10_take 15 = .ok (.getfield 10, 3) := by decide +kernel
theorem dX10_take_18 : decode cX10_take 18 = .ok (.invokevirtual 60, 3) := by decide +kernel
theorem dX10_take_21 : decode cX10_take 21 = .ok (.aload_n 0, 1) := by decide +kernel
theorem dX10_take_22 : decode cX10_take 22 = .ok (.getfield 10, 3) := by decide +kernel
theorem dX10_take_25 : decode cX10_take 25 = .ok (.iload_n 1, 1) := by decide +kernel
theorem dX10_take_26 : decode cX10_take 26 = .ok (.invokevirtual 154, 3) := by decide +kernel
theorem dX10_take_29 : decode cX10_take 29 = .ok (.astore_n 2, 1) := by decide +kernel
theorem dX10_take_30 : decode cX10_take 30 = .ok (.aload_n 2, 1) := by decide +kernel
theorem dX10_take_31 : decode cX10_take 31 = .ok (.iconst 1, 1) := by decide +kernel
theorem dX10_take_32 : decode cX10_take 32 = .ok (.putfield 158, 3) := by decide +kernel
theorem dX10_take_35 : decode cX10_take 35 = .ok (.aload_n 2, 1) := by decide +kernel
theorem dX10_take_36 : decode cX10_take 36 = .ok (.getfield 164, 3) := by decide +kernel
theorem dX10_take_39 : decode cX10_take 39 = .ok (.aload_n 0, 1) := by decide +kernel
theorem dX10_take_40 : decode cX10_take 40 = .ok (.getfield 10, 3) := by decide +kernel
theorem dX10_take_43 : decode cX10_take 43 = .ok (.getfield 64, 3) := by decide +kernel
theorem dX10_take_46 : decode cX10_take 46 = .ok (.invokevirtual 165, 3) := by decide +kernel
theorem dX10_take_49 : decode cX10_take 49 = .ok (.aload_n 2, 1) := by decide +kernel
theorem dX10_take_50 : decode cX10_take 50 = .ok (.getfield 164, 3) := by decide +kernel
theorem dX10_take_53 : decode cX10_take 53 = .ok (.getfield 100, 3) := by decide +kernel
theorem dX10_take_56 : decode cX10_take 56 = .ok (.ireturn, 1) := by decide +kernel
set_option maxRecDepth 20000 in
theorem ggX10_restore_X10_isSnapshotPlace : GoodIn wsX10_restore wsX10_isSnapshotPlace := goodIn_r _ [12, 13, 14, 11, 15] (by decide +kernel) (by decide +kernel)
set_option maxRecDepth 20000 in
theorem gX10_restore_X10_isSnapshotPlace : GoodIn wsX10_restore (va_wsS RX10 151 yX10_isSnapshotPlace wsX10_isSnapshotPlace) := goodIn_app (goodIn_of _ (by decide +kernel)) ggX10_restore_X10_isSnapshotPlace
set_option maxRecDepth 20000 in
theorem ggX10_restore_X6_snapshotAt : GoodIn wsX10_restore wsX6_snapshotAt := goodIn_r _ [20, 21, 22, 95, 96, 97, 98, 99, 100, 101] (by decide +kernel) (by decide +kernel)
set_option maxRecDepth 20000 in
theorem gX10_restore_X6_snapshotAt : GoodIn wsX10_restore (wsV RX10 154 RX6 yX6_snapshotAt wsX6_snapshotAt) := goodIn_app (goodIn_of _ (by decide +kernel)) ggX10_restore_X6_snapshotAt
set_option maxRecDepth 20000 in
theorem ggX10_restore_X1_keep : GoodIn wsX10_restore wsX1_keep := goodIn_r _ [27, 28, 29, 30, 31, 32, 33, 34, 35, 36, 26, 37, 38, 39, 40, 41, 19, 42, 43, 44, 45, 46, 21, 22, 47, 48, 49, 50, 51, 52, 53, 54, 55, 56, 57, 58, 59, 60, 61, 62, 63, 64, 65, 66, 67, 68, 69, 70, 71, 72, 73, 74, 75, 76, 77, 78, 79, 80, 81, 82, 83, 84, 85, 106, 107, 108, 95, 96, 97, 98, 99, 100, 101, 102, 103, 104, 105, 109, 110, 111, 112, 113, 93, 94] (by decide +kernel) (by decide +kernel)
set_option maxRecDepth 20000 in
theorem gX10_restore_X1_keep : GoodIn wsX10_restore (wsV RX10 60 RX1 yX1_keep wsX1_keep) := goodIn_app (goodIn_of _ (by decide +kernel)) ggX10_restore_X1_keep
set_option maxRecDepth 20000 in
theorem ggX10_restore_X3_copyFrom : GoodIn wsX10_restore wsX3_copyFrom := goodIn_r _ [52, 53, 54, 55, 56, 57, 58, 59, 60, 61, 62, 63, 31, 32, 33, 64, 65, 66, 67, 102, 103, 104, 105, 109, 110] (by decide +kernel) (by decide +kernel)
set_option maxRecDepth 20000 in
theorem gX10_restore_X3_copyFrom : GoodIn wsX10_restore (wsV RX10 165 RX3 yX3_copyFrom wsX3_copyFrom) := goodIn_app (goodIn_of _ (by decide +kernel)) ggX10_restore_X3_copyFrom
theorem dX10_restore_0 : decode cX10_restore 0 = .ok (.iload_n 1, 1) := by decide +kernel
theorem dX10_restore_1 : decode cX10_restore 1 = .ok (.invokestatic 151, 3) := by decide +kernel
theorem dX10_restore_4 : decode cX10_restore 4 = .ok (.ifCond .ne 6, 3) := by decide +kernel
theorem dX10_restore_7 : decode cX10_restore 7 = .ok (.ldc 59, 2) := by decide +kernel
theorem dX10_restore_9 : decode cX10_restore 9 = .ok (.ireturn, 1) := by decide +kernel
theorem dX10_restore_10 : decode cX10_restore 10 = .ok (.aload_n 0, 1) := by decide +kernel
theorem dX10_restore_11 : decode cX10_restore 11 = .ok (.getfield 10, 3) := by decide +kernel
theorem dX10_restore_14 : decode cX10_restore 14 = .ok (.iload_n 1, 1) := by decide +kernel
theorem dX10_restore_15 : decode cX10_restore 15 = .ok (.invokevirtual 154, 3) := by decide +kernel
theorem dX10_restore_18 : decode cX10_restore 18 = .ok (.astore_n 2, 1) := by decide +kernel
theorem dX10_restore_19 : decode cX10_restore 19 = .ok (.aload_n 2, 1) := by decide +kernel
theorem dX10_restore_20 : decode cX10_restore 20 = .ok (.getfield 158, 3) := by decide +kernel
theorem dX10_restore_23 : decode cX10_restore 23 = .ok (.ifCond .ne 6, 3) := by decide +kernel
theorem dX10_restore_26 : decode cX10_restore 26 = .ok (.ldc 129, 2) := by decide +kernel
theorem dX10_restore_28 : decode cX10_restore 28 = .ok (.ireturn, 1) := by decide +kernel
theorem dX10_restore_29 : decode cX10_restore 29 = .ok (.aload_n 0, 1) := by decide +kernel
theorem dX10_restore_30 : decode cX10_restore 30 = .ok (.getfield 19, 3) := by decide +kernel
theorem dX10_restore_33 : decode cX10_restore 33 = .ok (.aload_n 0, 1) := by decide +kernel
theorem dX10_restore_34 : decode cX10_restore 34 = .ok (.getfield 10, 3) := by decide +kernel
theorem dX10_restore_37 : decode cX10_restore 37 = .ok (.invokevirtual 60, 3) := by decide +kernel
theorem dX10_restore_40 : decode cX10_restore 40 = .ok (.aload_n 0, 1) := by decide +kernel
theorem dX10_restore_41 : decode cX10_restore 41 = .ok (.getfield 10, 3) := by decide +kernel
theorem dX10_restore_44 : decode cX10_restore 44 = .ok (.getfield 64, 3) := by decide +kernel
theorem dX10_restore_47 : decode cX10_restore 47 = .ok (.aload_n 2, 1) := by decide +kernel
theorem dX10_restore_48 : decode cX10_restore 48 = .ok (.getfield 164, 3) := by decide +kernel
theorem dX10_restore_51 : decode cX10_restore 51 = .ok (.invokevirtual 165, 3) := by decide +kernel
theorem dX10_restore_54 : decode cX10_restore 54 = .ok (.aload_n 0, 1) := by decide +kernel
theorem dX10_restore_55 : decode cX10_restore 55 = .ok (.getfield 10, 3) := by decide +kernel
theorem dX10_restore_58 : decode cX10_restore 58 = .ok (.getfield 64, 3) := by decide +kernel
theorem dX10_restore_61 : decode cX10_restore 61 = .ok (.getfield 100, 3) := by decide +kernel
theorem dX10_restore_64 : decode cX10_restore 64 = .ok (.ireturn, 1) := by decide +kernel
set_option maxRecDepth 20000 in
theorem ggX10_undo_X1_bringBack : GoodIn wsX10_undo wsX1_bringBack := goodIn_r _ [9, 10, 11, 12, 13, 14, 15, 16, 17, 18, 8, 19, 20, 21, 22, 23, 24, 25, 26, 27, 28, 29, 30, 31, 32, 33, 34, 35, 36, 37, 38, 39, 40, 41, 42, 43, 44, 45, 46, 47, 48, 49, 50, 51, 52, 53, 54, 55, 56, 57, 58, 59, 60, 61, 62, 63, 64, 65, 66, 67, 68, 69, 70, 71, 72, 73, 80, 81, 82, 83, 84, 85, 86, 87, 88, 89, 90, 91, 92, 93, 94, 95, 96, 97, 98, 99, 100] (by decide +kernel) (by decide +kernel)
set_option maxRecDepth 20000 in
theorem gX10_undo_X1_bringBack : GoodIn wsX10_undo (wsV RX10 172 RX1 yX1_bringBack wsX1_bringBack) := goodIn_app (goodIn_of _ (by decide +kernel)) ggX10_undo_X1_bringBack
theorem dX10_undo_0 : decode cX10_undo 0 = .ok (.aload_n 0, 1) := by decide +kernel
theorem dX10_undo_1 : decode cX10_undo 1 = .ok (.getfield 19, 3) := by decide +kernel
theorem dX10_undo_4 : decode cX10_undo 4 = .ok (.getfield 169, 3) := by decide +kernel
theorem dX10_undo_7 : decode cX10_undo 7 = .ok (.ifCond .ne 6, 3) := by decide +kernel
theorem dX10_undo_10 : decode cX10_undo 10 = .ok (.ldc 129, 2) := by decide +kernel
theorem dX10_undo_12 : decode cX10_undo 12 = .ok (.ireturn, 1) := by decide +kernel
theorem dX10_undo_13 : decode cX10_undo 13 = .ok (.aload_n 0, 1) := by decide +kernel
theorem dX10_undo_14 : decode cX10_undo 14 = .ok (.getfield 19, 3) := by decide +kernel
theorem dX10_undo_17 : decode cX10_undo 17 = .ok (.aload_n 0, 1) := by decide +kernel
theorem dX10_undo_18 : decode cX10_undo 18 = .ok (.getfield 10, 3) := by decide +kernel
theorem dX10_undo_21 : decode cX10_undo 21 = .ok (.invokevirtual 172, 3) := by decide +kernel
theorem dX10_undo_24 : decode cX10_undo 24 = .ok (.aload_n 0, 1) := by decide +kernel
theorem dX10_undo_25 : decode cX10_undo 25 = .ok (.getfield 19, 3) := by decide +kernel
theorem dX10_undo_28 : decode cX10_undo 28 = .ok (.getfield 169, 3) := by decide +kernel
theorem dX10_undo_31 : decode cX10_undo 31 = .ok (.ireturn, 1) := by decide +kernel
set_option maxRecDepth 20000 in
theorem ggX10_append_X10_isWithin : GoodIn wsX10_append wsX10_isWithin := goodIn_r _ [9] (by decide +kernel) (by decide +kernel)
set_option maxRecDepth 20000 in
theorem gX10_append_X10_isWithin : GoodIn wsX10_append (va_wsS RX10 81 yX10_isWithin wsX10_isWithin) := goodIn_app (goodIn_of _ (by decide +kernel)) ggX10_append_X10_isWithin
set_option maxRecDepth 20000 in
theorem ggX10_append_X8_add : GoodIn wsX10_append wsX8_add := goodIn_r _ [14, 15, 16, 27, 28] (by decide +kernel) (by decide +kernel)
set_option maxRecDepth 20000 in
theorem gX10_append_X8_add : GoodIn wsX10_append (wsV RX10 184 RX8 yX8_add wsX8_add) := goodIn_app (goodIn_of _ (by decide +kernel)) ggX10_append_X8_add
theorem dX10_append_0 : decode cX10_append 0 = .ok (.iload_n 1, 1) := by decide +kernel
theorem dX10_append_1 : decode cX10_append 1 = .ok (.iconst 1, 1) := by decide +kernel
theorem dX10_append_2 : decode cX10_append 2 = .ok (.sipush 255, 3) := by decide +kernel
theorem dX10_append_5 : decode cX10_append 5 = .ok (.invokestatic 81, 3) := by decide +kernel
theorem dX10_append_8 : decode cX10_append 8 = .ok (.ifCond .ne 6, 3) := by decide +kernel
theorem dX10_append_11 : decode cX10_append 11 = .ok (.ldc 59, 2) := by decide +kernel
theorem dX10_append_13 : decode cX10_append 13 = .ok (.ireturn, 1) := by decide +kernel
theorem dX10_append_14 : decode cX10_append 14 = .ok (.aload_n 0, 1) := by decide +kernel
theorem dX10_append_15 : decode cX10_append 15 = .ok (.getfield 47, 3) := by decide +kernel
theorem dX10_append_18 : decode cX10_append 18 = .ok (.getfield 175, 3) := by decide +kernel
theorem dX10_append_21 : decode cX10_append 21 = .ok (.getfield 179, 3) := by decide +kernel
theorem dX10_append_24 : decode cX10_append 24 = .ok (.sipush 140, 3) := by decide +kernel
theorem dX10_append_27 : decode cX10_append 27 = .ok (.if_icmp .lt 6, 3) := by decide +kernel
theorem dX10_append_30 : decode cX10_append 30 = .ok (.ldc 107, 2) := by decide +kernel
theorem dX10_append_32 : decode cX10_append 32 = .ok (.ireturn, 1) := by decide +kernel
theorem dX10_append_33 : decode cX10_append 33 = .ok (.aload_n 0, 1) := by decide +kernel
theorem dX10_append_34 : decode cX10_append 34 = .ok (.getfield 47, 3) := by decide +kernel
theorem dX10_append_37 : decode cX10_append 37 = .ok (.getfield 175, 3) := by decide +kernel
theorem dX10_append_40 : decode cX10_append 40 = .ok (.iload_n 1, 1) := by decide +kernel
theorem dX10_append_41 : decode cX10_append 41 = .ok (.invokevirtual 184, 3) := by decide +kernel
theorem dX10_append_44 : decode cX10_append 44 = .ok (.aload_n 0, 1) := by decide +kernel
theorem dX10_append_45 : decode cX10_append 45 = .ok (.getfield 47, 3) := by decide +kernel
theorem dX10_append_48 : decode cX10_append 48 = .ok (.getfield 175, 3) := by decide +kernel
theorem dX10_append_51 : decode cX10_append 51 = .ok (.getfield 179, 3) := by decide +kernel
theorem dX10_append_54 : decode cX10_append 54 = .ok (.ireturn, 1) := by decide +kernel
theorem dX10_clearText_0 : decode cX10_clearText 0 = .ok (.aload_n 0, 1) := by decide +kernel
theorem dX10_clearText_1 : decode cX10_clearText 1 = .ok (.getfield 47, 3) := by decide +kernel
theorem dX10_clearText_4 : decode cX10_clearText 4 = .ok (.getfield 175, 3) := by decide +kernel
theorem dX10_clearText_7 : decode cX10_clearText 7 = .ok (.getfield 179, 3) := by decide +kernel
theorem dX10_clearText_10 : decode cX10_clearText 10 = .ok (.istore_n 1, 1) := by decide +kernel
theorem dX10_clearText_11 : decode cX10_clearText 11 = .ok (.aload_n 0, 1) := by decide +kernel
theorem dX10_clearText_12 : decode cX10_clearText 12 = .ok (.getfield 47, 3) := by decide +kernel
theorem dX10_clearText_15 : decode cX10_clearText 15 = .ok (.getfield 175, 3) := by decide +kernel
theorem dX10_clearText_18 : decode cX10_clearText 18 = .ok (.iconst 0, 1) := by decide +kernel
theorem dX10_clearText_19 : decode cX10_clearText 19 = .ok (.putfield 179, 3) := by decide +kernel
theorem dX10_clearText_22 : decode cX10_clearText 22 = .ok (.iload_n 1, 1) := by decide +kernel
theorem dX10_clearText_23 : decode cX10_clearText 23 = .ok (.ireturn, 1) := by decide +kernel
set_option maxRecDepth 20000 in
theorem ggX10_load_X9_readItems : GoodIn wsX10_load wsX9_readItems := goodIn_r _ [14, 15, 16, 17, 18, 19, 20, 21, 22, 23, 24, 25, 26, 27, 28, 29, 30, 31, 32, 33, 34, 35, 36, 37, 38, 39, 40, 41, 42, 43, 13, 44, 45, 46, 47, 48, 49, 50, 51, 52, 53, 54, 55, 56, 57, 58, 59, 60, 61, 62, 63, 64, 65, 66, 67, 68, 69, 70, 71, 72, 73, 74, 75, 76, 77, 78, 79, 80, 81, 82, 83, 84, 85, 86, 87, 88, 89, 90, 91, 92, 93, 94, 95, 96, 97, 98, 99, 100, 101, 102, 103, 104, 105, 106, 107, 108, 109, 110, 111, 112, 113, 114, 115, 116, 176, 177, 178, 179, 182, 183, 184, 185, 186, 187, 180, 181] (by decide +kernel) (by decide +kernel)
set_option maxRecDepth 20000 in
theorem gX10_load_X9_readItems : GoodIn wsX10_load (wsV RX10 187 RX9 yX9_readItems wsX9_readItems) := goodIn_app (goodIn_of _ (by decide +kernel)) ggX10_load_X9_readItems
set_option maxRecDepth 20000 in
theorem ggX10_load_X9_hasFailed : GoodIn wsX10_load wsX9_hasFailed := goodIn_r _ [44, 17, 176, 177, 178, 179] (by decide +kernel) (by decide +kernel)
set_option maxRecDepth 20000 in
theorem gX10_load_X9_hasFailed : GoodIn wsX10_load (wsV RX10 191 RX9 yX9_hasFailed wsX9_hasFailed) := goodIn_app (goodIn_of _ (by decide +kernel)) ggX10_load_X9_hasFailed
set_option maxRecDepth 20000 in
theorem ggX10_load_X1_keep : GoodIn wsX10_load wsX1_keep := goodIn_r _ [122, 123, 124, 125, 34, 35, 36, 126, 127, 128, 121, 129, 130, 131, 132, 133, 134, 135, 136, 137, 138, 139, 140, 141, 142, 143, 19, 20, 21, 22, 23, 24, 25, 26, 27, 28, 29, 30, 31, 32, 33, 37, 38, 39, 40, 144, 145, 146, 147, 148, 149, 150, 151, 152, 153, 154, 155, 156, 157, 158, 159, 160, 161, 188, 189, 190, 169, 170, 171, 172, 173, 174, 175, 182, 183, 184, 185, 186, 187, 191, 192, 193, 194, 195] (by decide +kernel) (by decide +kernel)
set_option maxRecDepth 20000 in
theorem gX10_load_X1_keep : GoodIn wsX10_load (wsV RX10 60 RX1 yX1_keep wsX1_keep) := goodIn_app (goodIn_of _ (by decide +kernel)) ggX10_load_X1_keep
set_option maxRecDepth 20000 in
theorem ggX10_load_X3_copyFrom : GoodIn wsX10_load wsX3_copyFrom := goodIn_r _ [22, 23, 24, 25, 26, 27, 28, 29, 30, 31, 32, 33, 34, 35, 36, 37, 38, 39, 40, 182, 183, 184, 185, 186, 187] (by decide +kernel) (by decide +kernel)
set_option maxRecDepth 20000 in
theorem gX10_load_X3_copyFrom : GoodIn wsX10_load (wsV RX10 165 RX3 yX3_copyFrom wsX3_copyFrom) := goodIn_app (goodIn_of _ (by decide +kernel)) ggX10_load_X3_copyFrom
theorem dX10_load_0 : decode cX10_load 0 = .ok (.aload_n 0, 1) := by decide +kernel
theorem dX10_load_1 : decode cX10_load 1 = .ok (.getfield 47, 3) := by decide +kernel
theorem dX10_load_4 : decode cX10_load 4 = .ok (.aload_n 0, 1) := by decide +kernel
theorem dX10_load_5 : decode cX10_load 5 = .ok (.getfield 10, 3) := by decide +kernel
theorem dX10_load_8 : decode cX10_load 8 = .ok (.getfield 64, 3) := by decide +kernel
theorem dX10_load_11 : decode cX10_load 11 = .ok (.invokevirtual 187, 3) := by decide +kernel
theorem dX10_load_14 : decode cX10_load 14 = .ok (.istore_n 1, 1) := by decide +kernel
theorem dX10_load_15 : decode cX10_load 15 = .ok (.aload_n 0, 1) := by decide +kernel
theorem dX10_load_16 : decode cX10_load 16 = .ok (.getfield 47, 3) := by decide +kernel
theorem dX10_load_19 : decode cX10_load 19 = .ok (.invokevirtual 191, 3) := by decide +kernel
theorem dX10_load_22 : decode cX10_load 22 = .ok (.ifCond .eq 14, 3) := by decide +kernel
theorem dX10_load_25 : decode cX10_load 25 = .ok (.ldc 195, 2) := by decide +kernel
theorem dX10_load_27 : decode cX10_load 27 = .ok (.aload_n 0, 1) := by decide +kernel
theorem dX10_load_28 : decode cX10_load 28 = .ok (.getfield 47, 3) := by decide +kernel
theorem dX10_load_31 : decode cX10_load 31 = .ok (.getfield 196, 3) := by decide +kernel
theorem dX10_load_34 : decode cX10_load 34 = .ok (.isub, 1) := by decide +kernel
theorem dX10_load_35 : decode cX10_load 35 = .ok (.ireturn, 1) := by decide +kernel
theorem dX10_load_36 : decode cX10_load 36 = .ok (.aload_n 0, 1) := by decide +kernel
theorem dX10_load_37 : decode cX10_load 37 = .ok (.getfield 19, 3) := by decide +kernel
theorem dX10_load_40 : decode cX10_load 40 = .ok (.aload_n 0, 1) := by decide +kernel
theorem dX10_load_41 : decode cX10_load 41 = .ok (.getfield 10, 3) := by decide +kernel
theorem dX10_load_44 : decode cX10_load 44 = .ok (.invokevirtual 60, 3) := by decide +kernel
theorem dX10_load_47 : decode cX10_load 47 = .ok (.aload_n 0, 1) := by decide +kernel
theorem dX10_load_48 : decode cX10_load 48 = .ok (.getfield 10, 3) := by decide +kernel
theorem dX10_load_51 : decode cX10_load 51 = .ok (.getfield 64, 3) := by decide +kernel
theorem dX10_load_54 : decode cX10_load 54 = .ok (.aload_n 0, 1) := by decide +kernel
theorem dX10_load_55 : decode cX10_load 55 = .ok (.getfield 47, 3) := by decide +kernel
theorem dX10_load_58 : decode cX10_load 58 = .ok (.getfield 199, 3) := by decide +kernel
theorem dX10_load_61 : decode cX10_load 61 = .ok (.invokevirtual 165, 3) := by decide +kernel
theorem dX10_load_64 : decode cX10_load 64 = .ok (.aload_n 0, 1) := by decide +kernel
theorem dX10_load_65 : decode cX10_load 65 = .ok (.getfield 47, 3) := by decide +kernel
theorem dX10_load_68 : decode cX10_load 68 = .ok (.getfield 175, 3) := by decide +kernel
theorem dX10_load_71 : decode cX10_load 71 = .ok (.iconst 0, 1) := by decide +kernel
theorem dX10_load_72 : decode cX10_load 72 = .ok (.putfield 179, 3) := by decide +kernel
theorem dX10_load_75 : decode cX10_load 75 = .ok (.iload_n 1, 1) := by decide +kernel
theorem dX10_load_76 : decode cX10_load 76 = .ok (.ireturn, 1) := by decide +kernel
set_option maxRecDepth 20000 in
theorem ggX10_count_X6_time : GoodIn wsX10_count wsX6_time := goodIn_r _ [16, 17, 18, 19, 20, 21, 22, 23, 24, 60, 61, 62, 63, 64, 65, 66, 83, 84] (by decide +kernel) (by decide +kernel)
set_option maxRecDepth 20000 in
theorem gX10_count_X6_time : GoodIn wsX10_count (wsV RX10 121 RX6 yX6_time wsX6_time) := goodIn_app (goodIn_of _ (by decide +kernel)) ggX10_count_X6_time
set_option maxRecDepth 20000 in
theorem ggX10_count_X3_setting : GoodIn wsX10_count wsX3_setting := goodIn_r _ [29, 30, 31, 19, 20, 21, 22, 23, 24, 67, 68, 69, 70, 83, 84] (by decide +kernel) (by decide +kernel)
set_option maxRecDepth 20000 in
theorem gX10_count_X3_setting : GoodIn wsX10_count (wsV RX10 93 RX3 yX3_setting wsX3_setting) := goodIn_app (goodIn_of _ (by decide +kernel)) ggX10_count_X3_setting
set_option maxRecDepth 20000 in
theorem ggX10_count_X6_snapshotsTaken : GoodIn wsX10_count wsX6_snapshotsTaken := goodIn_r _ [35, 36, 37, 38, 60, 61, 62, 63, 64, 65, 66, 85, 86] (by decide +kernel) (by decide +kernel)
set_option maxRecDepth 20000 in
theorem gX10_count_X6_snapshotsTaken : GoodIn wsX10_count (wsV RX10 207 RX6 yX6_snapshotsTaken wsX6_snapshotsTaken) := goodIn_app (goodIn_of _ (by decide +kernel)) ggX10_count_X6_snapshotsTaken
set_option maxRecDepth 20000 in
theorem ggX10_count_X3_slotsOfScan : GoodIn wsX10_count wsX3_slotsOfScan := goodIn_r _ [42, 43, 44, 45, 46, 28, 47, 48, 31, 19, 20, 21, 22, 23, 24, 67, 68, 69, 70, 83, 84] (by decide +kernel) (by decide +kernel)
set_option maxRecDepth 20000 in
theorem gX10_count_X3_slotsOfScan : GoodIn wsX10_count (wsV RX10 130 RX3 yX3_slotsOfScan wsX3_slotsOfScan) := goodIn_app (goodIn_of _ (by decide +kernel)) ggX10_count_X3_slotsOfScan
set_option maxRecDepth 20000 in
theorem ggX10_count_X3_sourcesOf : GoodIn wsX10_count wsX3_sourcesOf := goodIn_r _ [52, 53, 31, 19, 20, 21, 22, 23, 24, 67, 68, 69, 70, 83, 84] (by decide +kernel) (by decide +kernel)
set_option maxRecDepth 20000 in
theorem gX10_count_X3_sourcesOf : GoodIn wsX10_count (wsV RX10 210 RX3 yX3_sourcesOf wsX3_sourcesOf) := goodIn_app (goodIn_of _ (by decide +kernel)) ggX10_count_X3_sourcesOf
theorem dX10_count_0 : decode cX10_count 0 = .ok (.iload_n 1, 1) := by decide +kernel
theorem dX10_count_1 : decode cX10_count 1 = .ok (.tableswitch 207 0 12 #[67, 75, 86, 98, 110, 122, 133, 141, 152, 160, 171, 183, 195], 67) := by decide +kernel
theorem dX10_count_68 : decode cX10_count 68 = .ok (.aload_n 0, 1) := by decide +kernel
theorem dX10_count_69 : decode cX10_count 69 = .ok (.getfield 10, 3) := by decide +kernel
theorem dX10_count_72 : decode cX10_count 72 = .ok (.invokevirtual 121, 3) := by decide +kernel
theorem dX10_count_75 : decode cX10_count 75 = .ok (.ireturn, 1) := by decide +kernel
theorem dX10_count_76 : decode cX10_count 76 = .ok (.aload_n 0, 1) := by decide +kernel
theorem dX10_count_77 : decode cX10_count 77 = .ok (.getfield 10, 3) := by decide +kernel
theorem dX10_count_80 : decode cX10_count 80 = .ok (.getfield 64, 3) := by decide +kernel
theorem dX10_count_83 : decode cX10_count 83 = .ok (.getfield 100, 3) := by decide +kernel
theorem dX10_count_86 : decode cX10_count 86 = .ok (.ireturn, 1) := by decide +kernel
theorem dX10_count_87 : decode cX10_count 87 = .ok (.aload_n 0, 1) := by decide +kernel
theorem dX10_count_88 : decode cX10_count 88 = .ok (.getfield 10, 3) := by decide +kernel
theorem dX10_count_91 : decode cX10_count 91 = .ok (.getfield 64, 3) := by decide +kernel
theorem dX10_count_94 : decode cX10_count 94 = .ok (.iconst 0, 1) := by decide +kernel
theorem dX10_count_95 : decode cX10_count 95 = .ok (.invokevirtual 93, 3) := by decide +kernel
theorem dX10_count_98 : decode cX10_count 98 = .ok (.ireturn, 1) := by decide +kernel
theorem dX10_count_99 : decode cX10_count 99 = .ok (.aload_n 0, 1) := by decide +kernel
theorem dX10_count_100 : decode cX10_count 100 = .ok (.getfield 10, 3) := by decide +kernel
theorem dX10_count_103 : decode cX10_count 103 = .ok (.getfield 64, 3) := by decide +kernel
theorem dX10_count_106 : decode cX10_count 106 = .ok (.iconst 1, 1) := by decide +kernel
theorem dX10_count_107 : decode cX10_count 107 = .ok (.invokevirtual 93, 3) := by decide +kernel
theorem dX10_count_110 : decode cX10_count 110 = .ok (.ireturn, 1) := by decide +kernel
theorem dX10_count_111 : decode cX10_count 111 = .ok (.aload_n 0, 1) := by decide +kernel
theorem dX10_count_112 : decode cX10_count 112 = .ok (.getfield 10, 3) := by decide +kernel
theorem dX10_count_115 : decode cX10_count 115 = .ok (.getfield 64, 3) := by decide +kernel
theorem dX10_count_118 : decode cX10_count 118 = .ok (.iconst 2, 1) := by decide +kernel
theorem dX10_count_119 : decode cX10_count 119 = .ok (.invokevirtual 93, 3) := by decide +kernel
theorem dX10_count_122 : decode cX10_count 122 = .ok (.ireturn, 1) := by decide +kernel
theorem dX10_count_123 : decode cX10_count 123 = .ok (.aload_n 0, 1) := by decide +kernel
theorem dX10_count_124 : decode cX10_count 124 = .ok (.getfield 10, 3) := by decide +kernel
theorem dX10_count_127 : decode cX10_count 127 = .ok (.getfield 200, 3) := by decide +kernel
theorem dX10_count_130 : decode cX10_count 130 = .ok (.getfield 204, 3) := by decide +kernel
theorem dX10_count_133 : decode cX10_count 133 = .ok (.ireturn, 1) := by decide +kernel
theorem dX10_count_134 : decode cX10_count 134 = .ok (.aload_n 0, 1) := by decide +kernel
theorem dX10_count_135 : decode cX10_count 135 = .ok (.getfield 10, 3) := by decide +kernel
theorem dX10_count_138 : decode cX10_count 138 = .ok (.invokevirtual 207, 3) := by decide +kernel
theorem dX10_count_141 : decode cX10_count 141 = .ok (.ireturn, 1) := by decide +kernel
theorem dX10_count_142 : decode cX10_count 142 = .ok (.aload_n 0, 1) := by decide +kernel
theorem dX10_count_143 : decode cX10_count 143 = .ok (.getfield 10, 3) := by decide +kernel
theorem dX10_count_146 : decode cX10_count 146 = .ok (.getfield 64, 3) := by decide +kernel
theorem dX10_count_149 : decode cX10_count 149 = .ok (.invokevirtual 130, 3) := by decide +kernel
theorem dX10_count_152 : decode cX10_count 152 = .ok (.ireturn, 1) := by decide +kernel
theorem dX10_count_153 : decode cX10_count 153 = .ok (.aload_n 0, 1) := by decide +kernel
theorem dX10_count_154 : decode cX10_count 154 = .ok (.getfield 19, 3) := by decide +kernel
theorem dX10_count_157 : decode cX10_count 157 = .ok (.getfield 169, 3) := by decide +kernel
theorem dX10_count_160 : decode cX10_count 160 = .ok (.ireturn, 1) := by decide +kernel
theorem dX10_count_161 : decode cX10_count 161 = .ok (.aload_n 0, 1) := by decide +kernel
theorem dX10_count_162 : decode cX10_count 162 = .ok (.getfield 47, 3) := by decide +kernel
theorem dX10_count_165 : decode cX10_count 165 = .ok (.getfield 175, 3) := by decide +kernel
theorem dX10_count_168 : decode cX10_count 168 = .ok (.getfield 179, 3) := by decide +kernel
theorem dX10_count_171 : decode cX10_count 171 = .ok (.ireturn, 1) := by decide +kernel
theorem dX10_count_172 : decode cX10_count 172 = .ok (.aload_n 0, 1) := by decide +kernel
theorem dX10_count_173 : decode cX10_count 173 = .ok (.getfield 10, 3) := by decide +kernel
theorem dX10_count_176 : decode cX10_count 176 = .ok (.getfield 64, 3) := by decide +kernel
theorem dX10_count_179 : decode cX10_count 179 = .ok (.iconst 0, 1) := by decide +kernel
theorem dX10_count_180 : decode cX10_count 180 = .ok (.invokevirtual 210, 3) := by decide +kernel
theorem dX10_count_183 : decode cX10_count 183 = .ok (.ireturn, 1) := by decide +kernel
theorem dX10_count_184 : decode cX10_count 184 = .ok (.aload_n 0, 1) := by decide +kernel
theorem dX10_count_185 : decode cX10_count 185 = .ok (.getfield 10, 3) := by decide +kernel
theorem dX10_count_188 : decode cX10_count 188 = .ok (.getfield 64, 3) := by decide +kernel
theorem dX10_count_191 : decode cX10_count 191 = .ok (.iconst 1, 1) := by decide +kernel
theorem dX10_count_192 : decode cX10_count 192 = .ok (.invokevirtual 210, 3) := by decide +kernel
theorem dX10_count_195 : decode cX10_count 195 = .ok (.ireturn, 1) := by decide +kernel
theorem dX10_count_196 : decode cX10_count 196 = .ok (.aload_n 0, 1) := by decide +kernel
theorem dX10_count_197 : decode cX10_count 197 = .ok (.getfield 10, 3) := by decide +kernel
theorem dX10_count_200 : decode cX10_count 200 = .ok (.getfield 64, 3) := by decide +kernel
theorem dX10_count_203 : decode cX10_count 203 = .ok (.iconst 2, 1) := by decide +kernel
theorem dX10_count_204 : decode cX10_count 204 = .ok (.invokevirtual 210, 3) := by decide +kernel
theorem dX10_count_207 : decode cX10_count 207 = .ok (.ireturn, 1) := by decide +kernel
theorem dX10_count_208 : decode cX10_count 208 = .ok (.ldc 59, 2) := by decide +kernel
theorem dX10_count_210 : decode cX10_count 210 = .ok (.ireturn, 1) := by decide +kernel
set_option maxRecDepth 20000 in
theorem ggX10_channel_X10_isChannel : GoodIn wsX10_channel wsX10_isChannel := goodIn_r _ [9, 10, 11, 8, 12] (by decide +kernel) (by decide +kernel)
set_option maxRecDepth 20000 in
theorem gX10_channel_X10_isChannel : GoodIn wsX10_channel (va_wsS RX10 51 yX10_isChannel wsX10_isChannel) := goodIn_app (goodIn_of _ (by decide +kernel)) ggX10_channel_X10_isChannel
set_option maxRecDepth 20000 in
theorem ggX10_channel_X10_isWithin : GoodIn wsX10_channel wsX10_isWithin := goodIn_r _ [12] (by decide +kernel) (by decide +kernel)
set_option maxRecDepth 20000 in
theorem gX10_channel_X10_isWithin : GoodIn wsX10_channel (va_wsS RX10 81 yX10_isWithin wsX10_isWithin) := goodIn_app (goodIn_of _ (by decide +kernel)) ggX10_channel_X10_isWithin
set_option maxRecDepth 20000 in
theorem ggX10_channel_X7_at : GoodIn wsX10_channel wsX7_at := goodIn_r _ [17, 18, 19, 63, 64] (by decide +kernel) (by decide +kernel)
set_option maxRecDepth 20000 in
theorem gX10_channel_X7_at : GoodIn wsX10_channel (wsV RX10 71 RX7 yX7_at wsX7_at) := goodIn_app (goodIn_of _ (by decide +kernel)) ggX10_channel_X7_at
set_option maxRecDepth 20000 in
theorem ggX10_channel_X6_correctedReading : GoodIn wsX10_channel wsX6_correctedReading := goodIn_r _ [24, 25, 26, 27, 28, 14, 15, 16, 17, 18, 19, 29, 30, 31, 32, 33, 34, 35, 36, 37, 38, 39, 52, 53, 54, 55, 56, 57, 58, 63, 64, 59, 60, 61, 62] (by decide +kernel) (by decide +kernel)
set_option maxRecDepth 20000 in
theorem gX10_channel_X6_correctedReading : GoodIn wsX10_channel (wsV RX10 216 RX6 yX6_correctedReading wsX6_correctedReading) := goodIn_app (goodIn_of _ (by decide +kernel)) ggX10_channel_X6_correctedReading
set_option maxRecDepth 20000 in
theorem ggX10_channel_X3_entriesOf : GoodIn wsX10_channel wsX3_entriesOf := goodIn_r _ [43, 44, 45, 35, 14, 15, 16, 17, 18, 19, 59, 60, 61, 62, 63, 64] (by decide +kernel) (by decide +kernel)
set_option maxRecDepth 20000 in
theorem gX10_channel_X3_entriesOf : GoodIn wsX10_channel (wsV RX10 219 RX3 yX3_entriesOf wsX3_entriesOf) := goodIn_app (goodIn_of _ (by decide +kernel)) ggX10_channel_X3_entriesOf
theorem dX10_channel_0 : decode cX10_channel 0 = .ok (.iload_n 1, 1) := by decide +kernel
theorem dX10_channel_1 : decode cX10_channel 1 = .ok (.invokestatic 51, 3) := by decide +kernel
theorem dX10_channel_4 : decode cX10_channel 4 = .ok (.ifCond .eq 13, 3) := by decide +kernel
theorem dX10_channel_7 : decode cX10_channel 7 = .ok (.iload_n 2, 1) := by decide +kernel
theorem dX10_channel_8 : decode cX10_channel 8 = .ok (.iconst 0, 1) := by decide +kernel
theorem dX10_channel_9 : decode cX10_channel 9 = .ok (.bipush 7, 2) := by decide +kernel
theorem dX10_channel_11 : decode cX10_channel 11 = .ok (.invokestatic 81, 3) := by decide +kernel
theorem dX10_channel_14 : decode cX10_channel 14 = .ok (.ifCond .ne 6, 3) := by decide +kernel
theorem dX10_channel_17 : decode cX10_channel 17 = .ok (.ldc 59, 2) := by decide +kernel
theorem dX10_channel_19 : decode cX10_channel 19 = .ok (.ireturn, 1) := by decide +kernel
theorem dX10_channel_20 : decode cX10_channel 20 = .ok (.iload_n 2, 1) := by decide +kernel
theorem dX10_channel_21 : decode cX10_channel 21 = .ok (.tableswitch 61 5 7 #[27, 40, 49], 27) := by decide +kernel
theorem dX10_channel_48 : decode cX10_channel 48 = .ok (.aload_n 0, 1) := by decide +kernel
theorem dX10_channel_49 : decode cX10_channel 49 = .ok (.getfield 10, 3) := by decide +kernel
theorem dX10_channel_52 : decode cX10_channel 52 = .ok (.getfield 213, 3) := by decide +kernel
theorem dX10_channel_55 : decode cX10_channel 55 = .ok (.iload_n 1, 1) := by decide +kernel
theorem dX10_channel_56 : decode cX10_channel 56 = .ok (.iconst 0, 1) := by decide +kernel
theorem dX10_channel_57 : decode cX10_channel 57 = .ok (.invokevirtual 71, 3) := by decide +kernel
theorem dX10_channel_60 : decode cX10_channel 60 = .ok (.ireturn, 1) := by decide +kernel
theorem dX10_channel_61 : decode cX10_channel 61 = .ok (.aload_n 0, 1) := by decide +kernel
theorem dX10_channel_62 : decode cX10_channel 62 = .ok (.getfield 10, 3) := by decide +kernel
theorem dX10_channel_65 : decode cX10_channel 65 = .ok (.iload_n 1, 1) := by decide +kernel
theorem dX10_channel_66 : decode cX10_channel 66 = .ok (.invokevirtual 216, 3) := by decide +kernel
theorem dX10_channel_69 : decode cX10_channel 69 = .ok (.ireturn, 1) := by decide +kernel
theorem dX10_channel_70 : decode cX10_channel 70 = .ok (.aload_n 0, 1) := by decide +kernel
theorem dX10_channel_71 : decode cX10_channel 71 = .ok (.getfield 10, 3) := by decide +kernel
theorem dX10_channel_74 : decode cX10_channel 74 = .ok (.getfield 64, 3) := by decide +kernel
theorem dX10_channel_77 : decode cX10_channel 77 = .ok (.iload_n 1, 1) := by decide +kernel
theorem dX10_channel_78 : decode cX10_channel 78 = .ok (.invokevirtual 219, 3) := by decide +kernel
theorem dX10_channel_81 : decode cX10_channel 81 = .ok (.ireturn, 1) := by decide +kernel
theorem dX10_channel_82 : decode cX10_channel 82 = .ok (.aload_n 0, 1) := by decide +kernel
theorem dX10_channel_83 : decode cX10_channel 83 = .ok (.getfield 10, 3) := by decide +kernel
theorem dX10_channel_86 : decode cX10_channel 86 = .ok (.getfield 64, 3) := by decide +kernel
theorem dX10_channel_89 : decode cX10_channel 89 = .ok (.getfield 67, 3) := by decide +kernel
theorem dX10_channel_92 : decode cX10_channel 92 = .ok (.iload_n 1, 1) := by decide +kernel
theorem dX10_channel_93 : decode cX10_channel 93 = .ok (.iload_n 2, 1) := by decide +kernel
theorem dX10_channel_94 : decode cX10_channel 94 = .ok (.invokevirtual 71, 3) := by decide +kernel
theorem dX10_channel_97 : decode cX10_channel 97 = .ok (.ireturn, 1) := by decide +kernel
set_option maxRecDepth 20000 in
theorem ggX10_entry_X10_isWithin : GoodIn wsX10_entry wsX10_isWithin := goodIn_r _ [9] (by decide +kernel) (by decide +kernel)
set_option maxRecDepth 20000 in
theorem gX10_entry_X10_isWithin : GoodIn wsX10_entry (va_wsS RX10 81 yX10_isWithin wsX10_isWithin) := goodIn_app (goodIn_of _ (by decide +kernel)) ggX10_entry_X10_isWithin
set_option maxRecDepth 20000 in
theorem ggX10_entry_X10_isEntry : GoodIn wsX10_entry wsX10_isEntry := goodIn_r _ [13, 2, 3, 14, 6, 7, 8, 9, 22, 23, 24, 25, 26, 27, 28, 29, 30, 31, 32, 33, 34, 35, 36, 37, 38] (by decide +kernel) (by decide +kernel)
set_option maxRecDepth 20000 in
theorem gX10_entry_X10_isEntry : GoodIn wsX10_entry (wsV RX10 111 RX10 yX10_isEntry wsX10_isEntry) := goodIn_app (goodIn_of _ (by decide +kernel)) ggX10_entry_X10_isEntry
set_option maxRecDepth 20000 in
theorem ggX10_entry_X7_at : GoodIn wsX10_entry wsX7_at := goodIn_r _ [19, 20, 21, 39, 40] (by decide +kernel) (by decide +kernel)
set_option maxRecDepth 20000 in
theorem gX10_entry_X7_at : GoodIn wsX10_entry (wsV RX10 71 RX7 yX7_at wsX7_at) := goodIn_app (goodIn_of _ (by decide +kernel)) ggX10_entry_X7_at
theorem dX10_entry_0 : decode cX10_entry 0 = .ok (.iload_n 1, 1) := by decide +kernel
theorem dX10_entry_1 : decode cX10_entry 1 = .ok (.ifCond .lt 12, 3) := by decide +kernel
theorem dX10_entry_4 : decode cX10_entry 4 = .ok (.iload_n 2, 1) := by decide +kernel
theorem dX10_entry_5 : decode cX10_entry 5 = .ok (.iconst 0, 1) := by decide +kernel
theorem dX10_entry_6 : decode cX10_entry 6 = .ok (.iconst 1, 1) := by decide +kernel
theorem dX10_entry_7 : decode cX10_entry 7 = .ok (.invokestatic 81, 3) := by decide +kernel
theorem dX10_entry_10 : decode cX10_entry 10 = .ok (.ifCond .ne 6, 3) := by decide +kernel
theorem dX10_entry_13 : decode cX10_entry 13 = .ok (.ldc 59, 2) := by decide +kernel
theorem dX10_entry_15 : decode cX10_entry 15 = .ok (.ireturn, 1) := by decide +kernel
theorem dX10_entry_16 : decode cX10_entry 16 = .ok (.aload_n 0, 1) := by decide +kernel
theorem dX10_entry_17 : decode cX10_entry 17 = .ok (.iload_n 1, 1) := by decide +kernel
theorem dX10_entry_18 : decode cX10_entry 18 = .ok (.invokevirtual 111, 3) := by decide +kernel
theorem dX10_entry_21 : decode cX10_entry 21 = .ok (.ifCond .eq 21, 3) := by decide +kernel
theorem dX10_entry_24 : decode cX10_entry 24 = .ok (.aload_n 0, 1) := by decide +kernel
theorem dX10_entry_25 : decode cX10_entry 25 = .ok (.getfield 10, 3) := by decide +kernel
theorem dX10_entry_28 : decode cX10_entry 28 = .ok (.getfield 64, 3) := by decide +kernel
theorem dX10_entry_31 : decode cX10_entry 31 = .ok (.getfield 118, 3) := by decide +kernel
theorem dX10_entry_34 : decode cX10_entry 34 = .ok (.iload_n 1, 1) := by decide +kernel
theorem dX10_entry_35 : decode cX10_entry 35 = .ok (.iload_n 2, 1) := by decide +kernel
theorem dX10_entry_36 : decode cX10_entry 36 = .ok (.invokevirtual 71, 3) := by decide +kernel
theorem dX10_entry_39 : decode cX10_entry 39 = .ok (.goto 5, 3) := by decide +kernel
theorem dX10_entry_42 : decode cX10_entry 42 = .ok (.ldc 222, 2) := by decide +kernel
theorem dX10_entry_44 : decode cX10_entry 44 = .ok (.ireturn, 1) := by decide +kernel
set_option maxRecDepth 20000 in
theorem ggX10_value_X10_isChannel : GoodIn wsX10_value wsX10_isChannel := goodIn_r _ [7, 8, 9, 6, 10] (by decide +kernel) (by decide +kernel)
set_option maxRecDepth 20000 in
theorem gX10_value_X10_isChannel : GoodIn wsX10_value (va_wsS RX10 51 yX10_isChannel wsX10_isChannel) := goodIn_app (goodIn_of _ (by decide +kernel)) ggX10_value_X10_isChannel
set_option maxRecDepth 20000 in
theorem ggX10_value_X10_isWithin : GoodIn wsX10_value wsX10_isWithin := goodIn_r _ [10] (by decide +kernel) (by decide +kernel)
set_option maxRecDepth 20000 in
theorem gX10_value_X10_isWithin : GoodIn wsX10_value (va_wsS RX10 81 yX10_isWithin wsX10_isWithin) := goodIn_app (goodIn_of _ (by decide +kernel)) ggX10_value_X10_isWithin
set_option maxRecDepth 20000 in
theorem ggX10_value_X3_valueAt : GoodIn wsX10_value wsX3_valueAt := goodIn_r _ [15, 16, 17, 18, 19, 20, 21, 22, 23, 24, 25, 26, 14, 27, 28, 29, 30, 31, 32, 33, 34, 35, 36, 37, 38, 39, 40, 41, 42, 56, 57, 58, 59, 60, 61] (by decide +kernel) (by decide +kernel)
set_option maxRecDepth 20000 in
theorem gX10_value_X3_valueAt : GoodIn wsX10_value (wsV RX10 223 RX3 yX3_valueAt wsX3_valueAt) := goodIn_app (goodIn_of _ (by decide +kernel)) ggX10_value_X3_valueAt
theorem dX10_value_0 : decode cX10_value 0 = .ok (.iload_n 1, 1) := by decide +kernel
theorem dX10_value_1 : decode cX10_value 1 = .ok (.invokestatic 51, 3) := by decide +kernel
theorem dX10_value_4 : decode cX10_value 4 = .ok (.ifCond .eq 14, 3) := by decide +kernel
theorem dX10_value_7 : decode cX10_value 7 = .ok (.iload_n 2, 1) := by decide +kernel
theorem dX10_value_8 : decode cX10_value 8 = .ok (.iconst 0, 1) := by decide +kernel
theorem dX10_value_9 : decode cX10_value 9 = .ok (.sipush 9999, 3) := by decide +kernel
theorem dX10_value_12 : decode cX10_value 12 = .ok (.invokestatic 81, 3) := by decide +kernel
theorem dX10_value_15 : decode cX10_value 15 = .ok (.ifCond .ne 6, 3) := by decide +kernel
theorem dX10_value_18 : decode cX10_value 18 = .ok (.ldc 59, 2) := by decide +kernel
theorem dX10_value_20 : decode cX10_value 20 = .ok (.ireturn, 1) := by decide +kernel
theorem dX10_value_21 : decode cX10_value 21 = .ok (.aload_n 0, 1) := by decide +kernel
theorem dX10_value_22 : decode cX10_value 22 = .ok (.getfield 10, 3) := by decide +kernel
theorem dX10_value_25 : decode cX10_value 25 = .ok (.getfield 64, 3) := by decide +kernel
theorem dX10_value_28 : decode cX10_value 28 = .ok (.iload_n 1, 1) := by decide +kernel
theorem dX10_value_29 : decode cX10_value 29 = .ok (.iload_n 2, 1) := by decide +kernel
theorem dX10_value_30 : decode cX10_value 30 = .ok (.invokevirtual 223, 3) := by decide +kernel
theorem dX10_value_33 : decode cX10_value 33 = .ok (.ireturn, 1) := by decide +kernel
set_option maxRecDepth 20000 in
theorem ggX10_sample_X10_isWithin : GoodIn wsX10_sample wsX10_isWithin := goodIn_r _ [9] (by decide +kernel) (by decide +kernel)
set_option maxRecDepth 20000 in
theorem gX10_sample_X10_isWithin : GoodIn wsX10_sample (va_wsS RX10 81 yX10_isWithin wsX10_isWithin) := goodIn_app (goodIn_of _ (by decide +kernel)) ggX10_sample_X10_isWithin
set_option maxRecDepth 20000 in
theorem ggX10_sample_X2_part : GoodIn wsX10_sample wsX2_part := goodIn_r _ [14, 15, 16, 17, 18, 19, 20, 21, 22, 23, 24, 25, 26, 27, 41, 42, 43, 44, 45] (by decide +kernel) (by decide +kernel)
set_option maxRecDepth 20000 in
theorem gX10_sample_X2_part : GoodIn wsX10_sample (wsV RX10 226 RX2 yX2_part wsX2_part) := goodIn_app (goodIn_of _ (by decide +kernel)) ggX10_sample_X2_part
theorem dX10_sample_0 : decode cX10_sample 0 = .ok (.iload_n 1, 1) := by decide +kernel
theorem dX10_sample_1 : decode cX10_sample 1 = .ok (.ifCond .lt 12, 3) := by decide +kernel
theorem dX10_sample_4 : decode cX10_sample 4 = .ok (.iload_n 2, 1) := by decide +kernel
theorem dX10_sample_5 : decode cX10_sample 5 = .ok (.iconst 0, 1) := by decide +kernel
theorem dX10_sample_6 : decode cX10_sample 6 = .ok (.iconst 4, 1) := by decide +kernel
theorem dX10_sample_7 : decode cX10_sample 7 = .ok (.invokestatic 81, 3) := by decide +kernel
theorem dX10_sample_10 : decode cX10_sample 10 = .ok (.ifCond .ne 6, 3) := by decide +kernel
theorem dX10_sample_13 : decode cX10_sample 13 = .ok (.ldc 59, 2) := by decide +kernel
theorem dX10_sample_15 : decode cX10_sample 15 = .ok (.ireturn, 1) := by decide +kernel
theorem dX10_sample_16 : decode cX10_sample 16 = .ok (.iload_n 1, 1) := by decide +kernel
theorem dX10_sample_17 : decode cX10_sample 17 = .ok (.aload_n 0, 1) := by decide +kernel
theorem dX10_sample_18 : decode cX10_sample 18 = .ok (.getfield 10, 3) := by decide +kernel
theorem dX10_sample_21 : decode cX10_sample 21 = .ok (.getfield 200, 3) := by decide +kernel
theorem dX10_sample_24 : decode cX10_sample 24 = .ok (.getfield 204, 3) := by decide +kernel
theorem dX10_sample_27 : decode cX10_sample 27 = .ok (.if_icmp .ge 18, 3) := by decide +kernel
theorem dX10_sample_30 : decode cX10_sample 30 = .ok (.aload_n 0, 1) := by decide +kernel
theorem dX10_sample_31 : decode cX10_sample 31 = .ok (.getfield 10, 3) := by decide +kernel
theorem dX10_sample_34 : decode cX10_sample 34 = .ok (.getfield 200, 3) := by decide +kernel
theorem dX10_sample_37 : decode cX10_sample 37 = .ok (.iload_n 1, 1) := by decide +kernel
theorem dX10_sample_38 : decode cX10_sample 38 = .ok (.iload_n 2, 1) := by decide +kernel
theorem dX10_sample_39 : decode cX10_sample 39 = .ok (.invokevirtual 226, 3) := by decide +kernel
theorem dX10_sample_42 : decode cX10_sample 42 = .ok (.goto 5, 3) := by decide +kernel
theorem dX10_sample_45 : decode cX10_sample 45 = .ok (.ldc 222, 2) := by decide +kernel
theorem dX10_sample_47 : decode cX10_sample 47 = .ok (.ireturn, 1) := by decide +kernel
set_option maxRecDepth 20000 in
theorem ggX10_account_X6_time : GoodIn wsX10_account wsX6_time := goodIn_r _ [8, 9, 10, 11, 12, 13, 14, 15, 16, 28, 29, 30, 31, 32, 33, 34, 35, 36] (by decide +kernel) (by decide +kernel)
set_option maxRecDepth 20000 in
theorem gX10_account_X6_time : GoodIn wsX10_account (wsV RX10 121 RX6 yX6_time wsX6_time) := goodIn_app (goodIn_of _ (by decide +kernel)) ggX10_account_X6_time
set_option maxRecDepth 20000 in
theorem ggX10_account_X10_isWithin : GoodIn wsX10_account wsX10_isWithin := goodIn_r _ [20] (by decide +kernel) (by decide +kernel)
set_option maxRecDepth 20000 in
theorem gX10_account_X10_isWithin : GoodIn wsX10_account (va_wsS RX10 81 yX10_isWithin wsX10_isWithin) := goodIn_app (goodIn_of _ (by decide +kernel)) ggX10_account_X10_isWithin
set_option maxRecDepth 20000 in
theorem ggX10_account_X7_at : GoodIn wsX10_account wsX7_at := goodIn_r _ [14, 15, 16, 35, 36] (by decide +kernel) (by decide +kernel)
set_option maxRecDepth 20000 in
theorem gX10_account_X7_at : GoodIn wsX10_account (wsV RX10 71 RX7 yX7_at wsX7_at) := goodIn_app (goodIn_of _ (by decide +kernel)) ggX10_account_X7_at
theorem dX10_account_0 : decode cX10_account 0 = .ok (.iload_n 1, 1) := by decide +kernel
theorem dX10_account_1 : decode cX10_account 1 = .ok (.bipush 6, 2) := by decide +kernel
theorem dX10_account_3 : decode cX10_account 3 = .ok (.if_icmp .ne 11, 3) := by decide +kernel
theorem dX10_account_6 : decode cX10_account 6 = .ok (.aload_n 0, 1) := by decide +kernel
theorem dX10_account_7 : decode cX10_account 7 = .ok (.getfield 10, 3) := by decide +kernel
theorem dX10_account_10 : decode cX10_account 10 = .ok (.invokevirtual 121, 3) := by decide +kernel
theorem dX10_account_13 : decode cX10_account 13 = .ok (.ireturn, 1) := by decide +kernel
theorem dX10_account_14 : decode cX10_account 14 = .ok (.iload_n 1, 1) := by decide +kernel
theorem dX10_account_15 : decode cX10_account 15 = .ok (.iconst 0, 1) := by decide +kernel
theorem dX10_account_16 : decode cX10_account 16 = .ok (.iconst 5, 1) := by decide +kernel
theorem dX10_account_17 : decode cX10_account 17 = .ok (.invokestatic 81, 3) := by decide +kernel
theorem dX10_account_20 : decode cX10_account 20 = .ok (.ifCond .eq 18, 3) := by decide +kernel
theorem dX10_account_23 : decode cX10_account 23 = .ok (.aload_n 0, 1) := by decide +kernel
theorem dX10_account_24 : decode cX10_account 24 = .ok (.getfield 10, 3) := by decide +kernel
theorem dX10_account_27 : decode cX10_account 27 = .ok (.getfield 133, 3) := by decide +kernel
theorem dX10_account_30 : decode cX10_account 30 = .ok (.iload_n 1, 1) := by decide +kernel
theorem dX10_account_31 : decode cX10_account 31 = .ok (.iconst 0, 1) := by decide +kernel
theorem dX10_account_32 : decode cX10_account 32 = .ok (.invokevirtual 71, 3) := by decide +kernel
theorem dX10_account_35 : decode cX10_account 35 = .ok (.goto 5, 3) := by decide +kernel
theorem dX10_account_38 : decode cX10_account 38 = .ok (.ldc 59, 2) := by decide +kernel
theorem dX10_account_40 : decode cX10_account 40 = .ok (.ireturn, 1) := by decide +kernel
set_option maxRecDepth 20000 in
theorem ggX10_held_X3_readingOf : GoodIn wsX10_held wsX3_readingOf := goodIn_r _ [10, 11, 12, 13, 9, 14, 15, 16, 17, 18, 19, 20, 21, 22, 23, 24, 25, 26, 27, 28, 29, 30, 31, 45, 46, 47, 48, 49, 50] (by decide +kernel) (by decide +kernel)
set_option maxRecDepth 20000 in
theorem gX10_held_X3_readingOf : GoodIn wsX10_held (wsV RX10 229 RX3 yX3_readingOf wsX3_readingOf) := goodIn_app (goodIn_of _ (by decide +kernel)) ggX10_held_X3_readingOf
theorem dX10_held_0 : decode cX10_held 0 = .ok (.iload_n 1, 1) := by decide +kernel
theorem dX10_held_1 : decode cX10_held 1 = .ok (.tableswitch 66 0 2 #[27, 36, 54], 27) := by decide +kernel
theorem dX10_held_28 : decode cX10_held 28 = .ok (.aload_n 0, 1) := by decide +kernel
theorem dX10_held_29 : decode cX10_held 29 = .ok (.getfield 10, 3) := by decide +kernel
theorem dX10_held_32 : decode cX10_held 32 = .ok (.getfield 136, 3) := by decide +kernel
theorem dX10_held_35 : decode cX10_held 35 = .ok (.f2i, 1) := by decide +kernel
theorem dX10_held_36 : decode cX10_held 36 = .ok (.ireturn, 1) := by decide +kernel
theorem dX10_held_37 : decode cX10_held 37 = .ok (.aload_n 0, 1) := by decide +kernel
theorem dX10_held_38 : decode cX10_held 38 = .ok (.getfield 10, 3) := by decide +kernel
theorem dX10_held_41 : decode cX10_held 41 = .ok (.getfield 64, 3) := by decide +kernel
theorem dX10_held_44 : decode cX10_held 44 = .ok (.aload_n 0, 1) := by decide +kernel
theorem dX10_held_45 : decode cX10_held 45 = .ok (.getfield 10, 3) := by decide +kernel
theorem dX10_held_48 : decode cX10_held 48 = .ok (.getfield 136, 3) := by decide +kernel
theorem dX10_held_51 : decode cX10_held 51 = .ok (.invokevirtual 229, 3) := by decide +kernel
theorem dX10_held_54 : decode cX10_held 54 = .ok (.ireturn, 1) := by decide +kernel
theorem dX10_held_55 : decode cX10_held 55 = .ok (.aload_n 0, 1) := by decide +kernel
theorem dX10_held_56 : decode cX10_held 56 = .ok (.getfield 10, 3) := by decide +kernel
theorem dX10_held_59 : decode cX10_held 59 = .ok (.getfield 136, 3) := by decide +kernel
theorem dX10_held_62 : decode cX10_held 62 = .ok (.ldc 233, 2) := by decide +kernel
theorem dX10_held_64 : decode cX10_held 64 = .ok (.fmul, 1) := by decide +kernel
theorem dX10_held_65 : decode cX10_held 65 = .ok (.f2i, 1) := by decide +kernel
theorem dX10_held_66 : decode cX10_held 66 = .ok (.ireturn, 1) := by decide +kernel
theorem dX10_held_67 : decode cX10_held 67 = .ok (.ldc 59, 2) := by decide +kernel
theorem dX10_held_69 : decode cX10_held 69 = .ok (.ireturn, 1) := by decide +kernel
set_option maxRecDepth 20000 in
theorem ggX10_would_X10_isEntry : GoodIn wsX10_would wsX10_isEntry := goodIn_r _ [11, 2, 3, 12, 13, 14, 10, 15, 103, 104, 105, 106, 107, 108, 109, 110, 111, 112, 113, 114, 115, 121, 122, 123, 124] (by decide +kernel) (by decide +kernel)
set_option maxRecDepth 20000 in
theorem gX10_would_X10_isEntry : GoodIn wsX10_would (wsV RX10 111 RX10 yX10_isEntry wsX10_isEntry) := goodIn_app (goodIn_of _ (by decide +kernel)) ggX10_would_X10_isEntry
set_option maxRecDepth 20000 in
theorem ggX10_would_X10_isWithin : GoodIn wsX10_would wsX10_isWithin := goodIn_r _ [15] (by decide +kernel) (by decide +kernel)
set_option maxRecDepth 20000 in
theorem gX10_would_X10_isWithin : GoodIn wsX10_would (va_wsS RX10 81 yX10_isWithin wsX10_isWithin) := goodIn_app (goodIn_of _ (by decide +kernel)) ggX10_would_X10_isWithin
set_option maxRecDepth 20000 in
theorem ggX10_would_X10_tryEntries : GoodIn wsX10_would wsX10_tryEntries := goodIn_r _ [19, 4, 2, 20, 6, 21, 22, 23, 24, 25, 26, 27, 28, 29, 30, 31, 32, 33, 34, 35, 36, 37, 38, 39, 40, 41, 42, 43, 44, 45, 46, 47, 48, 49, 50, 51, 52, 53, 54, 55, 56, 57, 58, 59, 60, 61, 62, 63, 64, 65, 66, 67, 68, 69, 70, 71, 72, 73, 74, 75, 76, 77, 78, 79, 80, 81, 82, 83, 84, 85, 86, 87, 88, 89, 90, 91, 92, 93, 94, 10, 95, 96, 97, 98, 103, 104, 105, 106, 107, 108, 109, 110, 111, 112, 113, 114, 115, 116, 117, 118, 119, 120, 125, 126, 121, 122, 123, 124] (by decide +kernel) (by decide +kernel)
set_option maxRecDepth 20000 in
theorem gX10_would_X10_tryEntries : GoodIn wsX10_would (wsV RX10 234 RX10 yX10_tryEntries wsX10_tryEntries) := goodIn_app (goodIn_of _ (by decide +kernel)) ggX10_would_X10_tryEntries
set_option maxRecDepth 20000 in
theorem ggX10_would_X0_error : GoodIn wsX10_would wsX0_error := goodIn_r _ [102, 56, 55, 116, 117, 118, 119, 120] (by decide +kernel) (by decide +kernel)
set_option maxRecDepth 20000 in
theorem gX10_would_X0_error : GoodIn wsX10_would (wsV RX10 244 RX0 yX0_error wsX0_error) := goodIn_app (goodIn_of _ (by decide +kernel)) ggX10_would_X0_error
theorem dX10_would_0 : decode cX10_would 0 = .ok (.aload_n 0, 1) := by decide +kernel
theorem dX10_would_1 : decode cX10_would 1 = .ok (.iload_n 1, 1) := by decide +kernel
theorem dX10_would_2 : decode cX10_would 2 = .ok (.invokevirtual 111, 3) := by decide +kernel
theorem dX10_would_5 : decode cX10_would 5 = .ok (.ifCond .eq 12, 3) := by decide +kernel
theorem dX10_would_8 : decode cX10_would 8 = .ok (.iload_n 2, 1) := by decide +kernel
theorem dX10_would_9 : decode cX10_would 9 = .ok (.iconst 0, 1) := by decide +kernel
theorem dX10_would_10 : decode cX10_would 10 = .ok (.iconst 2, 1) := by decide +kernel
theorem dX10_would_11 : decode cX10_would 11 = .ok (.invokestatic 81, 3) := by decide +kernel
theorem dX10_would_14 : decode cX10_would 14 = .ok (.ifCond .ne 6, 3) := by decide +kernel
theorem dX10_would_17 : decode cX10_would 17 = .ok (.ldc 59, 2) := by decide +kernel
theorem dX10_would_19 : decode cX10_would 19 = .ok (.ireturn, 1) := by decide +kernel
theorem dX10_would_20 : decode cX10_would 20 = .ok (.aload_n 0, 1) := by decide +kernel
theorem dX10_would_21 : decode cX10_would 21 = .ok (.aload_n 0, 1) := by decide +kernel
theorem dX10_would_22 : decode cX10_would 22 = .ok (.getfield 10, 3) := by decide +kernel
theorem dX10_would_25 : decode cX10_would 25 = .ok (.getfield 64, 3) := by decide +kernel
theorem dX10_would_28 : decode cX10_would 28 = .ok (.iload_n 1, 1) := by decide +kernel
theorem dX10_would_29 : decode cX10_would 29 = .ok (.iconst 1, 1) := by decide +kernel
theorem dX10_would_30 : decode cX10_would 30 = .ok (.iadd, 1) := by decide +kernel
theorem dX10_would_31 : decode cX10_would 31 = .ok (.invokevirtual 234, 3) := by decide +kernel
theorem dX10_would_34 : decode cX10_would 34 = .ok (.pop, 1) := by decide +kernel
theorem dX10_would_35 : decode cX10_would 35 = .ok (.iload_n 2, 1) := by decide +kernel
theorem dX10_would_36 : decode cX10_would 36 = .ok (.lookupswitch 44 #[(0, 28), (1, 36)], 28) := by decide +kernel
theorem dX10_would_64 : decode cX10_would 64 = .ok (.aload_n 0, 1) := by decide +kernel
theorem dX10_would_65 : decode cX10_would 65 = .ok (.getfield 26, 3) := by decide +kernel
theorem dX10_would_68 : decode cX10_would 68 = .ok (.getfield 238, 3) := by decide +kernel
theorem dX10_would_71 : decode cX10_would 71 = .ok (.ireturn, 1) := by decide +kernel
theorem dX10_would_72 : decode cX10_would 72 = .ok (.aload_n 0, 1) := by decide +kernel
theorem dX10_would_73 : decode cX10_would 73 = .ok (.getfield 26, 3) := by decide +kernel
theorem dX10_would_76 : decode cX10_would 76 = .ok (.getfield 241, 3) := by decide +kernel
theorem dX10_would_79 : decode cX10_would 79 = .ok (.ireturn, 1) := by decide +kernel
theorem dX10_would_80 : decode cX10_would 80 = .ok (.aload_n 0, 1) := by decide +kernel
theorem dX10_would_81 : decode cX10_would 81 = .ok (.getfield 26, 3) := by decide +kernel
theorem dX10_would_84 : decode cX10_would 84 = .ok (.invokevirtual 244, 3) := by decide +kernel
theorem dX10_would_87 : decode cX10_would 87 = .ok (.ireturn, 1) := by decide +kernel
set_option maxRecDepth 20000 in
theorem ggX10_why_X10_isEntry : GoodIn wsX10_why wsX10_isEntry := goodIn_r _ [12, 2, 3, 13, 14, 15, 11, 16, 105, 106, 107, 108, 109, 110, 111, 112, 113, 114, 115, 116, 117, 123, 124, 125, 126] (by decide +kernel) (by decide +kernel)
set_option maxRecDepth 20000 in
theorem gX10_why_X10_isEntry : GoodIn wsX10_why (wsV RX10 111 RX10 yX10_isEntry wsX10_isEntry) := goodIn_app (goodIn_of _ (by decide +kernel)) ggX10_why_X10_isEntry
set_option maxRecDepth 20000 in
theorem ggX10_why_X10_tryEntries : GoodIn wsX10_why wsX10_tryEntries := goodIn_r _ [20, 4, 2, 21, 5, 22, 23, 24, 25, 26, 27, 28, 29, 30, 31, 32, 33, 34, 35, 36, 37, 38, 39, 40, 41, 42, 43, 44, 45, 46, 47, 48, 49, 50, 51, 52, 53, 54, 55, 56, 57, 58, 59, 60, 61, 62, 63, 64, 65, 66, 67, 68, 69, 70, 71, 72, 73, 74, 75, 76, 77, 78, 79, 80, 81, 82, 83, 84, 85, 86, 87, 88, 89, 90, 91, 92, 93, 94, 95, 11, 96, 97, 98, 99, 105, 106, 107, 108, 109, 110, 111, 112, 113, 114, 115, 116, 117, 118, 119, 120, 121, 122, 127, 128, 123, 124, 125, 126] (by decide +kernel) (by decide +kernel)
set_option maxRecDepth 20000 in
theorem gX10_why_X10_tryEntries : GoodIn wsX10_why (wsV RX10 234 RX10 yX10_tryEntries wsX10_tryEntries) := goodIn_app (goodIn_of _ (by decide +kernel)) ggX10_why_X10_tryEntries
set_option maxRecDepth 20000 in
theorem ggX10_why_X0_error : GoodIn wsX10_why wsX0_error := goodIn_r _ [103, 57, 56, 118, 119, 120, 121, 122] (by decide +kernel) (by decide +kernel)
set_option maxRecDepth 20000 in
theorem gX10_why_X0_error : GoodIn wsX10_why (wsV RX10 244 RX0 yX0_error wsX0_error) := goodIn_app (goodIn_of _ (by decide +kernel)) ggX10_why_X0_error
set_option maxRecDepth 20000 in
theorem ggX10_why_X10_readingWith : GoodIn wsX10_why wsX10_readingWith := goodIn_r _ [96, 97, 98, 99, 71, 24, 72] (by decide +kernel) (by decide +kernel)
set_option maxRecDepth 20000 in
theorem gX10_why_X10_readingWith : GoodIn wsX10_why (va_wsS RX10 248 yX10_readingWith wsX10_readingWith) := goodIn_app (goodIn_of _ (by decide +kernel)) ggX10_why_X10_readingWith
theorem dX10_why_0 : decode cX10_why 0 = .ok (.aload_n 0, 1) := by decide +kernel
theorem dX10_why_1 : decode cX10_why 1 = .ok (.iload_n 1, 1) := by decide +kernel
theorem dX10_why_2 : decode cX10_why 2 = .ok (.invokevirtual 111, 3) := by decide +kernel
theorem dX10_why_5 : decode cX10_why 5 = .ok (.ifCond .ne 6, 3) := by decide +kernel
theorem dX10_why_8 : decode cX10_why 8 = .ok (.ldc 59, 2) := by decide +kernel
theorem dX10_why_10 : decode cX10_why 10 = .ok (.ireturn, 1) := by decide +kernel
theorem dX10_why_11 : decode cX10_why 11 = .ok (.aload_n 0, 1) := by decide +kernel
theorem dX10_why_12 : decode cX10_why 12 = .ok (.aload_n 0, 1) := by decide +kernel
theorem dX10_why_13 : decode cX10_why 13 = .ok (.getfield 10, 3) := by decide +kernel
theorem dX10_why_16 : decode cX10_why 16 = .ok (.getfield 64, 3) := by decide +kernel
theorem dX10_why_19 : decode cX10_why 19 = .ok (.iload_n 1, 1) := by decide +kernel
theorem dX10_why_20 : decode cX10_why 20 = .ok (.iconst 1, 1) := by decide +kernel
theorem dX10_why_21 : decode cX10_why 21 = .ok (.iadd, 1) := by decide +kernel
theorem dX10_why_22 : decode cX10_why 22 = .ok (.invokevirtual 234, 3) := by decide +kernel
theorem dX10_why_25 : decode cX10_why 25 = .ok (.pop, 1) := by decide +kernel
theorem dX10_why_26 : decode cX10_why 26 = .ok (.aload_n 0, 1) := by decide +kernel
theorem dX10_why_27 : decode cX10_why 27 = .ok (.getfield 26, 3) := by decide +kernel
theorem dX10_why_30 : decode cX10_why 30 = .ok (.invokevirtual 244, 3) := by decide +kernel
theorem dX10_why_33 : decode cX10_why 33 = .ok (.ifCond .ne 5, 3) := by decide +kernel
theorem dX10_why_36 : decode cX10_why 36 = .ok (.iconst 0, 1) := by decide +kernel
theorem dX10_why_37 : decode cX10_why 37 = .ok (.ireturn, 1) := by decide +kernel
theorem dX10_why_38 : decode cX10_why 38 = .ok (.aload_n 0, 1) := by decide +kernel
theorem dX10_why_39 : decode cX10_why 39 = .ok (.getfield 26, 3) := by decide +kernel
theorem dX10_why_42 : decode cX10_why 42 = .ok (.getfield 241, 3) := by decide +kernel
theorem dX10_why_45 : decode cX10_why 45 = .ok (.ifCond .eq 19, 3) := by decide +kernel
theorem dX10_why_48 : decode cX10_why 48 = .ok (.aload_n 0, 1) := by decide +kernel
theorem dX10_why_49 : decode cX10_why 49 = .ok (.getfield 26, 3) := by decide +kernel
theorem dX10_why_52 : decode cX10_why 52 = .ok (.getfield 241, 3) := by decide +kernel
theorem dX10_why_55 : decode cX10_why 55 = .ok (.ifCond .le 7, 3) := by decide +kernel
theorem dX10_why_58 : decode cX10_why 58 = .ok (.iconst 1, 1) := by decide +kernel
theorem dX10_why_59 : decode cX10_why 59 = .ok (.goto 4, 3) := by decide +kernel
theorem dX10_why_62 : decode cX10_why 62 = .ok (.iconst 2, 1) := by decide +kernel
theorem dX10_why_63 : decode cX10_why 63 = .ok (.ireturn, 1) := by decide +kernel
theorem dX10_why_64 : decode cX10_why 64 = .ok (.aload_n 0, 1) := by decide +kernel
theorem dX10_why_65 : decode cX10_why 65 = .ok (.getfield 26, 3) := by decide +kernel
theorem dX10_why_68 : decode cX10_why 68 = .ok (.getfield 247, 3) := by decide +kernel
theorem dX10_why_71 : decode cX10_why 71 = .ok (.sipush 1000, 3) := by decide +kernel
theorem dX10_why_74 : decode cX10_why 74 = .ok (.iconst 0, 1) := by decide +kernel
theorem dX10_why_75 : decode cX10_why 75 = .ok (.invokestatic 248, 3) := by decide +kernel
theorem dX10_why_78 : decode cX10_why 78 = .ok (.aload_n 0, 1) := by decide +kernel
theorem dX10_why_79 : decode cX10_why 79 = .ok (.getfield 26, 3) := by decide +kernel
theorem dX10_why_82 : decode cX10_why 82 = .ok (.getfield 252, 3) := by decide +kernel
theorem dX10_why_85 : decode cX10_why 85 = .ok (.if_icmp .ne 7, 3) := by decide +kernel
theorem dX10_why_88 : decode cX10_why 88 = .ok (.iconst 3, 1) := by decide +kernel
theorem dX10_why_89 : decode cX10_why 89 = .ok (.goto 4, 3) := by decide +kernel
theorem dX10_why_92 : decode cX10_why 92 = .ok (.iconst 4, 1) := by decide +kernel
theorem dX10_why_93 : decode cX10_why 93 = .ok (.ireturn, 1) := by decide +kernel
set_option maxRecDepth 20000 in
theorem ggX10_settleFor_X10_isEntry : GoodIn wsX10_settleFor wsX10_isEntry := goodIn_r _ [17, 2, 3, 18, 19, 20, 16, 21, 108, 109, 110, 111, 112, 113, 114, 115, 116, 117, 118, 119, 120, 126, 127, 128, 129] (by decide +kernel) (by decide +kernel)
set_option maxRecDepth 20000 in
theorem gX10_settleFor_X10_isEntry : GoodIn wsX10_settleFor (wsV RX10 111 RX10 yX10_isEntry wsX10_isEntry) := goodIn_app (goodIn_of _ (by decide +kernel)) ggX10_settleFor_X10_isEntry
set_option maxRecDepth 20000 in
theorem ggX10_settleFor_X10_isWithin : GoodIn wsX10_settleFor wsX10_isWithin := goodIn_r _ [21] (by decide +kernel) (by decide +kernel)
set_option maxRecDepth 20000 in
theorem gX10_settleFor_X10_isWithin : GoodIn wsX10_settleFor (va_wsS RX10 81 yX10_isWithin wsX10_isWithin) := goodIn_app (goodIn_of _ (by decide +kernel)) ggX10_settleFor_X10_isWithin
set_option maxRecDepth 20000 in
theorem ggX10_settleFor_X10_tryEntries : GoodIn wsX10_settleFor wsX10_tryEntries := goodIn_r _ [25, 4, 2, 26, 27, 8, 9, 10, 11, 28, 29, 30, 31, 32, 33, 34, 35, 36, 37, 38, 39, 40, 41, 42, 43, 44, 45, 46, 47, 48, 49, 50, 51, 52, 53, 54, 55, 56, 57, 58, 59, 60, 61, 62, 63, 64, 65, 66, 67, 68, 69, 70, 71, 72, 73, 74, 75, 76, 77, 78, 79, 80, 81, 82, 83, 84, 85, 86, 87, 88, 89, 90, 91, 92, 93, 94, 95, 96, 97, 16, 98, 99, 100, 101, 108, 109, 110, 111, 112, 113, 114, 115, 116, 117, 118, 119, 120, 121, 122, 123, 124, 125, 130, 131, 126, 127, 128, 129] (by decide +kernel) (by decide +kernel)
set_option maxRecDepth 20000 in
theorem gX10_settleFor_X10_tryEntries : GoodIn wsX10_settleFor (wsV RX10 234 RX10 yX10_tryEntries wsX10_tryEntries) := goodIn_app (goodIn_of _ (by decide +kernel)) ggX10_settleFor_X10_tryEntries
set_option maxRecDepth 20000 in
theorem ggX10_settleFor_X7_at : GoodIn wsX10_settleFor wsX7_at := goodIn_r _ [38, 39, 40, 130, 131] (by decide +kernel) (by decide +kernel)
set_option maxRecDepth 20000 in
theorem gX10_settleFor_X7_at : GoodIn wsX10_settleFor (wsV RX10 71 RX7 yX7_at wsX7_at) := goodIn_app (goodIn_of _ (by decide +kernel)) ggX10_settleFor_X7_at
set_option maxRecDepth 20000 in
theorem ggX10_settleFor_X0_start : GoodIn wsX10_settleFor wsX0_start := goodIn_r _ [45, 46, 47, 121, 122, 123, 124, 125] (by decide +kernel) (by decide +kernel)
set_option maxRecDepth 20000 in
theorem gX10_settleFor_X0_start : GoodIn wsX10_settleFor (wsV RX10 140 RX0 yX0_start wsX0_start) := goodIn_app (goodIn_of _ (by decide +kernel)) ggX10_settleFor_X0_start
set_option maxRecDepth 20000 in
theorem ggX10_settleFor_X0_carryOut : GoodIn wsX10_settleFor wsX0_carryOut := goodIn_r _ [57, 47, 58, 46, 59, 60, 61, 62, 63, 64, 65, 66, 67, 35, 36, 37, 38, 39, 40, 68, 69, 70, 71, 72, 73, 10, 74, 75, 76, 77, 78, 79, 80, 81, 82, 83, 84, 85, 86, 87, 88, 89, 90, 91, 44, 92, 93, 94, 95, 96, 97, 16, 98, 99, 100, 101, 121, 122, 123, 124, 125, 126, 127, 128, 129, 130, 131] (by decide +kernel) (by decide +kernel)
set_option maxRecDepth 20000 in
theorem gX10_settleFor_X0_carryOut : GoodIn wsX10_settleFor (wsV RX10 257 RX0 yX0_carryOut wsX0_carryOut) := goodIn_app (goodIn_of _ (by decide +kernel)) ggX10_settleFor_X0_carryOut
set_option maxRecDepth 20000 in
theorem ggX10_settleFor_X0_error : GoodIn wsX10_settleFor wsX0_error := goodIn_r _ [107, 59, 58, 121, 122, 123, 124, 125] (by decide +kernel) (by decide +kernel)
set_option maxRecDepth 20000 in
theorem gX10_settleFor_X0_error : GoodIn wsX10_settleFor (wsV RX10 244 RX0 yX0_error wsX0_error) := goodIn_app (goodIn_of _ (by decide +kernel)) ggX10_settleFor_X0_error
theorem dX10_settleFor_0 : decode cX10_settleFor 0 = .ok (.aload_n 0, 1) := by decide +kernel
theorem dX10_settleFor_1 : decode cX10_settleFor 1 = .ok (.iload_n 1, 1) := by decide +kernel
theorem dX10_settleFor_2 : decode cX10_settleFor 2 = .ok (.invokevirtual 111, 3) := by decide +kernel
theorem dX10_settleFor_5 : decode cX10_settleFor 5 = .ok (.ifCond .eq 14, 3) := by decide +kernel
theorem dX10_settleFor_8 : decode cX10_settleFor 8 = .ok (.iload_n 2, 1) := by decide +kernel
theorem dX10_settleFor_9 : decode cX10_settleFor 9 = .ok (.iconst 0, 1) := by decide +kernel
theorem dX10_settleFor_10 : decode cX10_settleFor 10 = .ok (.sipush 4095, 3) := by decide +kernel
theorem dX10_settleFor_13 : decode cX10_settleFor 13 = .ok (.invokestatic 81, 3) := by decide +kernel
theorem dX10_settleFor_16 : decode cX10_settleFor 16 = .ok (.ifCond .ne 6, 3) := by decide +kernel
theorem dX10_settleFor_19 : decode cX10_settleFor 19 = .ok (.ldc 59, 2) := by decide +kernel
theorem dX10_settleFor_21 : decode cX10_settleFor 21 = .ok (.ireturn, 1) := by decide +kernel
theorem dX10_settleFor_22 : decode cX10_settleFor 22 = .ok (.aload_n 0, 1) := by decide +kernel
theorem dX10_settleFor_23 : decode cX10_settleFor 23 = .ok (.aload_n 0, 1) := by decide +kernel
theorem dX10_settleFor_24 : decode cX10_settleFor 24 = .ok (.getfield 10, 3) := by decide +kernel
theorem dX10_settleFor_27 : decode cX10_settleFor 27 = .ok (.getfield 64, 3) := by decide +kernel
theorem dX10_settleFor_30 : decode cX10_settleFor 30 = .ok (.iload_n 1, 1) := by decide +kernel
theorem dX10_settleFor_31 : decode cX10_settleFor 31 = .ok (.invokevirtual 234, 3) := by decide +kernel
theorem dX10_settleFor_34 : decode cX10_settleFor 34 = .ok (.pop, 1) := by decide +kernel
theorem dX10_settleFor_35 : decode cX10_settleFor 35 = .ok (.aload_n 0, 1) := by decide +kernel
theorem dX10_settleFor_36 : decode cX10_settleFor 36 = .ok (.getfield 26, 3) := by decide +kernel
theorem dX10_settleFor_39 : decode cX10_settleFor 39 = .ok (.getfield 247, 3) := by decide +kernel
theorem dX10_settleFor_42 : decode cX10_settleFor 42 = .ok (.fstore_n 3, 1) := by decide +kernel
theorem dX10_settleFor_43 : decode cX10_settleFor 43 = .ok (.aload_n 0, 1) := by decide +kernel
theorem dX10_settleFor_44 : decode cX10_settleFor 44 = .ok (.getfield 26, 3) := by decide +kernel
theorem dX10_settleFor_47 : decode cX10_settleFor 47 = .ok (.getfield 255, 3) := by decide +kernel
theorem dX10_settleFor_50 : decode cX10_settleFor 50 = .ok (.istore 4, 2) := by decide +kernel
theorem dX10_settleFor_52 : decode cX10_settleFor 52 = .ok (.aload_n 0, 1) := by decide +kernel
theorem dX10_settleFor_53 : decode cX10_settleFor 53 = .ok (.getfield 10, 3) := by decide +kernel
theorem dX10_settleFor_56 : decode cX10_settleFor 56 = .ok (.getfield 64, 3) := by decide +kernel
theorem dX10_settleFor_59 : decode cX10_settleFor 59 = .ok (.getfield 118, 3) := by decide +kernel
theorem dX10_settleFor_62 : decode cX10_settleFor 62 = .ok (.iload_n 1, 1) := by decide +kernel
theorem dX10_settleFor_63 : decode cX10_settleFor 63 = .ok (.iconst 0, 1) := by decide +kernel
theorem dX10_settleFor_64 : decode cX10_settleFor 64 = .ok (.invokevirtual 71, 3) := by decide +kernel
theorem dX10_settleFor_67 : decode cX10_settleFor 67 = .ok (.istore 5, 2) := by decide +kernel
theorem dX10_settleFor_69 : decode cX10_settleFor 69 = .ok (.iconst 0, 1) := by decide +kernel
theorem dX10_settleFor_70 : decode cX10_settleFor 70 = .ok (.istore 6, 2) := by decide +kernel
theorem dX10_settleFor_72 : decode cX10_settleFor 72 = .ok (.iload 6, 2) := by decide +kernel
theorem dX10_settleFor_74 : decode cX10_settleFor 74 = .ok (.bipush 7, 2) := by decide +kernel
theorem dX10_settleFor_76 : decode cX10_settleFor 76 = .ok (.if_icmp .gt 54, 3) := by decide +kernel
theorem dX10_settleFor_79 : decode cX10_settleFor 79 = .ok (.aload_n 0, 1) := by decide +kernel
theorem dX10_settleFor_80 : decode cX10_settleFor 80 = .ok (.getfield 26, 3) := by decide +kernel
theorem dX10_settleFor_83 : decode cX10_settleFor 83 = .ok (.fload_n 3, 1) := by decide +kernel
theorem dX10_settleFor_84 : decode cX10_settleFor 84 = .ok (.iload 4, 2) := by decide +kernel
theorem dX10_settleFor_86 : decode cX10_settleFor 86 = .ok (.invokevirtual 140, 3) := by decide +kernel
theorem dX10_settleFor_89 : decode cX10_settleFor 89 = .ok (.aload_n 0, 1) := by decide +kernel
theorem dX10_settleFor_90 : decode cX10_settleFor 90 = .ok (.getfield 26, 3) := by decide +kernel
theorem dX10_settleFor_93 : decode cX10_settleFor 93 = .ok (.aload_n 0, 1) := by decide +kernel
theorem dX10_settleFor_94 : decode cX10_settleFor 94 = .ok (.getfield 10, 3) := by decide +kernel
theorem dX10_settleFor_97 : decode cX10_settleFor 97 = .ok (.getfield 64, 3) := by decide +kernel
theorem dX10_settleFor_100 : decode cX10_settleFor 100 = .ok (.iload 5, 2) := by decide +kernel
theorem dX10_settleFor_102 : decode cX10_settleFor 102 = .ok (.iload 6, 2) := by decide +kernel
theorem dX10_settleFor_104 : decode cX10_settleFor 104 = .ok (.invokevirtual 257, 3) := by decide +kernel
theorem dX10_settleFor_107 : decode cX10_settleFor 107 = .ok (.aload_n 0, 1) := by decide +kernel
theorem dX10_settleFor_108 : decode cX10_settleFor 108 = .ok (.getfield 26, 3) := by decide +kernel
theorem dX10_settleFor_111 : decode cX10_settleFor 111 = .ok (.invokevirtual 244, 3) := by decide +kernel
theorem dX10_settleFor_114 : decode cX10_settleFor 114 = .ok (.invokestatic 261, 3) := by decide +kernel
theorem dX10_settleFor_117 : decode cX10_settleFor 117 = .ok (.iload_n 2, 1) := by decide +kernel
theorem dX10_settleFor_118 : decode cX10_settleFor 118 = .ok (.if_icmp .gt 6, 3) := by decide +kernel
theorem dX10_settleFor_121 : decode cX10_settleFor 121 = .ok (.iload 6, 2) := by decide +kernel
theorem dX10_settleFor_123 : decode cX10_settleFor 123 = .ok (.ireturn, 1) := by decide +kernel
theorem dX10_settleFor_124 : decode cX10_settleFor 124 = .ok (.iinc 6 1, 3) := by decide +kernel
theorem dX10_settleFor_127 : decode cX10_settleFor 127 = .ok (.goto (-55), 3) := by decide +kernel
theorem dX10_settleFor_130 : decode cX10_settleFor 130 = .ok (.ldc 222, 2) := by decide +kernel
theorem dX10_settleFor_132 : decode cX10_settleFor 132 = .ok (.ireturn, 1) := by decide +kernel
set_option maxRecDepth 20000 in
theorem ggX10_bestRule_X10_tryEntries : GoodIn wsX10_bestRule wsX10_tryEntries := goodIn_r _ [10, 11, 1, 12, 13, 14, 15, 16, 17, 18, 19, 20, 21, 22, 23, 24, 25, 26, 27, 28, 29, 30, 31, 32, 33, 34, 35, 36, 37, 38, 39, 40, 41, 42, 43, 44, 45, 46, 47, 48, 49, 50, 51, 52, 53, 54, 55, 56, 57, 58, 59, 60, 61, 62, 63, 64, 65, 66, 67, 68, 69, 70, 71, 72, 73, 74, 75, 76, 77, 78, 79, 80, 81, 82, 83, 84, 85, 86, 87, 9, 88, 89, 90, 91, 138, 139, 140, 141, 142, 143, 144, 145, 146, 147, 148, 149, 150, 155, 156, 157, 158, 159, 160, 161, 151, 152, 153, 154] (by decide +kernel) (by decide +kernel)
set_option maxRecDepth 20000 in
theorem gX10_bestRule_X10_tryEntries : GoodIn wsX10_bestRule (wsV RX10 234 RX10 yX10_tryEntries wsX10_tryEntries) := goodIn_app (goodIn_of _ (by decide +kernel)) ggX10_bestRule_X10_tryEntries
set_option maxRecDepth 20000 in
theorem ggX10_bestRule_X3_copyFrom : GoodIn wsX10_bestRule wsX3_copyFrom := goodIn_r _ [95, 56, 96, 72, 97, 98, 99, 100, 27, 101, 30, 102, 63, 16, 64, 103, 104, 105, 106, 151, 152, 153, 154, 160, 161] (by decide +kernel) (by decide +kernel)
set_option maxRecDepth 20000 in
theorem gX10_bestRule_X3_copyFrom : GoodIn wsX10_bestRule (wsV RX10 165 RX3 yX3_copyFrom wsX3_copyFrom) := goodIn_app (goodIn_of _ (by decide +kernel)) ggX10_bestRule_X3_copyFrom
set_option maxRecDepth 20000 in
theorem ggX10_bestRule_X6_time : GoodIn wsX10_bestRule wsX6_time := goodIn_r _ [22, 23, 24, 25, 26, 27, 28, 29, 30, 144, 145, 146, 147, 148, 149, 150, 160, 161] (by decide +kernel) (by decide +kernel)
set_option maxRecDepth 20000 in
theorem gX10_bestRule_X6_time : GoodIn wsX10_bestRule (wsV RX10 121 RX6 yX6_time wsX6_time) := goodIn_app (goodIn_of _ (by decide +kernel)) ggX10_bestRule_X6_time
set_option maxRecDepth 20000 in
theorem ggX10_bestRule_X5_arrange : GoodIn wsX10_bestRule wsX5_arrange := goodIn_r _ [111, 112, 113, 114, 115, 116, 117, 110, 118, 119, 25, 26, 27, 28, 29, 30, 120, 52, 53, 54, 55, 56, 57, 121, 59, 60, 61, 62, 63, 16, 64, 65, 66, 67, 68, 69, 70, 71, 72, 73, 74, 75, 76, 77, 78, 79, 122, 123, 124, 125, 126, 127, 128, 129, 130, 131, 132, 133, 134, 135, 136, 137, 99, 100, 101, 102, 103, 104, 105, 106, 151, 152, 153, 154, 162, 163, 164, 160, 161] (by decide +kernel) (by decide +kernel)
set_option maxRecDepth 20000 in
theorem gX10_bestRule_X5_arrange : GoodIn wsX10_bestRule (wsV RX10 125 RX5 yX5_arrange wsX5_arrange) := goodIn_app (goodIn_of _ (by decide +kernel)) ggX10_bestRule_X5_arrange
theorem dX10_bestRule_0 : decode cX10_bestRule 0 = .ok (.iconst (-1), 1) := by decide +kernel
theorem dX10_bestRule_1 : decode cX10_bestRule 1 = .ok (.istore_n 1, 1) := by decide +kernel
theorem dX10_bestRule_2 : decode cX10_bestRule 2 = .ok (.aload_n 0, 1) := by decide +kernel
theorem dX10_bestRule_3 : decode cX10_bestRule 3 = .ok (.aload_n 0, 1) := by decide +kernel
theorem dX10_bestRule_4 : decode cX10_bestRule 4 = .ok (.getfield 10, 3) := by decide +kernel
theorem dX10_bestRule_7 : decode cX10_bestRule 7 = .ok (.getfield 64, 3) := by decide +kernel
theorem dX10_bestRule_10 : decode cX10_bestRule 10 = .ok (.aload_n 0, 1) := by decide +kernel
theorem dX10_bestRule_11 : decode cX10_bestRule 11 = .ok (.getfield 10, 3) := by decide +kernel
theorem dX10_bestRule_14 : decode cX10_bestRule 14 = .ok (.getfield 64, 3) := by decide +kernel
theorem dX10_bestRule_17 : decode cX10_bestRule 17 = .ok (.getfield 100, 3) := by decide +kernel
theorem dX10_bestRule_20 : decode cX10_bestRule 20 = .ok (.invokevirtual 234, 3) := by decide +kernel
theorem dX10_bestRule_23 : decode cX10_bestRule 23 = .ok (.istore_n 2, 1) := by decide +kernel
theorem dX10_bestRule_24 : decode cX10_bestRule 24 = .ok (.iconst 0, 1) := by decide +kernel
theorem dX10_bestRule_25 : decode cX10_bestRule 25 = .ok (.istore_n 3, 1) := by decide +kernel
theorem dX10_bestRule_26 : decode cX10_bestRule 26 = .ok (.iload_n 3, 1) := by decide +kernel
theorem dX10_bestRule_27 : decode cX10_bestRule 27 = .ok (.iconst 4, 1) := by decide +kernel
theorem dX10_bestRule_28 : decode cX10_bestRule 28 = .ok (.if_icmp .ge 71, 3) := by decide +kernel
theorem dX10_bestRule_31 : decode cX10_bestRule 31 = .ok (.aload_n 0, 1) := by decide +kernel
theorem dX10_bestRule_32 : decode cX10_bestRule 32 = .ok (.getfield 40, 3) := by decide +kernel
theorem dX10_bestRule_35 : decode cX10_bestRule 35 = .ok (.aload_n 0, 1) := by decide +kernel
theorem dX10_bestRule_36 : decode cX10_bestRule 36 = .ok (.getfield 10, 3) := by decide +kernel
theorem dX10_bestRule_39 : decode cX10_bestRule 39 = .ok (.getfield 64, 3) := by decide +kernel
theorem dX10_bestRule_42 : decode cX10_bestRule 42 = .ok (.invokevirtual 165, 3) := by decide +kernel
theorem dX10_bestRule_45 : decode cX10_bestRule 45 = .ok (.aload_n 0, 1) := by decide +kernel
theorem dX10_bestRule_46 : decode cX10_bestRule 46 = .ok (.getfield 33, 3) := by decide +kernel
theorem dX10_bestRule_49 : decode cX10_bestRule 49 = .ok (.aload_n 0, 1) := by decide +kernel
theorem dX10_bestRule_50 : decode cX10_bestRule 50 = .ok (.getfield 40, 3) := by decide +kernel
theorem dX10_bestRule_53 : decode cX10_bestRule 53 = .ok (.iload_n 3, 1) := by decide +kernel
theorem dX10_bestRule_54 : decode cX10_bestRule 54 = .ok (.aload_n 0, 1) := by decide +kernel
theorem dX10_bestRule_55 : decode cX10_bestRule 55 = .ok (.getfield 10, 3) := by decide +kernel
theorem dX10_bestRule_58 : decode cX10_bestRule 58 = .ok (.invokevirtual 121, 3) := by decide +kernel
theorem dX10_bestRule_61 : decode cX10_bestRule 61 = .ok (.invokevirtual 125, 3) := by decide +kernel
theorem dX10_bestRule_64 : decode cX10_bestRule 64 = .ok (.pop, 1) := by decide +kernel
theorem dX10_bestRule_65 : decode cX10_bestRule 65 = .ok (.aload_n 0, 1) := by decide +kernel
theorem dX10_bestRule_66 : decode cX10_bestRule 66 = .ok (.aload_n 0, 1) := by decide +kernel
theorem dX10_bestRule_67 : decode cX10_bestRule 67 = .ok (.getfield 40, 3) := by decide +kernel
theorem dX10_bestRule_70 : decode cX10_bestRule 70 = .ok (.aload_n 0, 1) := by decide +kernel
theorem dX10_bestRule_71 : decode cX10_bestRule 71 = .ok (.getfield 40, 3) := by decide +kernel
theorem dX10_bestRule_74 : decode cX10_bestRule 74 = .ok (.getfield 100, 3) := by decide +kernel
theorem dX10_bestRule_77 : decode cX10_bestRule 77 = .ok (.invokevirtual 234, 3) := by decide +kernel
theorem dX10_bestRule_80 : decode cX10_bestRule 80 = .ok (.istore 4, 2) := by decide +kernel
theorem dX10_bestRule_82 : decode cX10_bestRule 82 = .ok (.iload 4, 2) := by decide +kernel
theorem dX10_bestRule_84 : decode cX10_bestRule 84 = .ok (.iload_n 2, 1) := by decide +kernel
theorem dX10_bestRule_85 : decode cX10_bestRule 85 = .ok (.if_icmp .ge 8, 3) := by decide +kernel
theorem dX10_bestRule_88 : decode cX10_bestRule 88 = .ok (.iload 4, 2) := by decide +kernel
theorem dX10_bestRule_90 : decode cX10_bestRule 90 = .ok (.istore_n 2, 1) := by decide +kernel
theorem dX10_bestRule_91 : decode cX10_bestRule 91 = .ok (.iload_n 3, 1) := by decide +kernel
theorem dX10_bestRule_92 : decode cX10_bestRule 92 = .ok (.istore_n 1, 1) := by decide +kernel
theorem dX10_bestRule_93 : decode cX10_bestRule 93 = .ok (.iinc 3 1, 3) := by decide +kernel
theorem dX10_bestRule_96 : decode cX10_bestRule 96 = .ok (.goto (-70), 3) := by decide +kernel
theorem dX10_bestRule_99 : decode cX10_bestRule 99 = .ok (.iload_n 1, 1) := by decide +kernel
theorem dX10_bestRule_100 : decode cX10_bestRule 100 = .ok (.ireturn, 1) := by decide +kernel
set_option maxRecDepth 20000 in
theorem ggX10_groundsNeeded_X6_time : GoodIn wsX10_groundsNeeded wsX6_time := goodIn_r _ [13, 14, 15, 16, 17, 18, 19, 20, 21, 92, 93, 94, 95, 96, 97, 98, 108, 109] (by decide +kernel) (by decide +kernel)
set_option maxRecDepth 20000 in
theorem gX10_groundsNeeded_X6_time : GoodIn wsX10_groundsNeeded (wsV RX10 121 RX6 yX6_time wsX6_time) := goodIn_app (goodIn_of _ (by decide +kernel)) ggX10_groundsNeeded_X6_time
set_option maxRecDepth 20000 in
theorem ggX10_groundsNeeded_X0_start : GoodIn wsX10_groundsNeeded wsX0_start := goodIn_r _ [26, 27, 28, 103, 104, 105, 106, 107] (by decide +kernel) (by decide +kernel)
set_option maxRecDepth 20000 in
theorem gX10_groundsNeeded_X0_start : GoodIn wsX10_groundsNeeded (wsV RX10 140 RX0 yX0_start wsX0_start) := goodIn_app (goodIn_of _ (by decide +kernel)) ggX10_groundsNeeded_X0_start
set_option maxRecDepth 20000 in
theorem ggX10_groundsNeeded_X0_carryOutEntry : GoodIn wsX10_groundsNeeded wsX0_carryOutEntry := goodIn_r _ [32, 33, 34, 16, 17, 18, 19, 20, 21, 35, 36, 37, 25, 38, 28, 39, 27, 40, 41, 42, 43, 44, 45, 46, 47, 48, 49, 50, 51, 52, 53, 54, 55, 56, 57, 58, 59, 60, 61, 62, 63, 64, 65, 66, 67, 68, 69, 70, 71, 72, 73, 74, 75, 76, 77, 78, 79, 80, 81, 82, 83, 84, 99, 100, 101, 102, 108, 109, 103, 104, 105, 106, 107] (by decide +kernel) (by decide +kernel)
set_option maxRecDepth 20000 in
theorem gX10_groundsNeeded_X0_carryOutEntry : GoodIn wsX10_groundsNeeded (wsV RX10 266 RX0 yX0_carryOutEntry wsX0_carryOutEntry) := goodIn_app (goodIn_of _ (by decide +kernel)) ggX10_groundsNeeded_X0_carryOutEntry
set_option maxRecDepth 20000 in
theorem ggX10_groundsNeeded_X0_carryOut : GoodIn wsX10_groundsNeeded wsX0_carryOut := goodIn_r _ [38, 28, 39, 27, 40, 41, 42, 43, 44, 45, 46, 47, 48, 16, 17, 18, 19, 20, 21, 49, 50, 51, 52, 53, 54, 55, 56, 57, 58, 59, 60, 61, 62, 63, 64, 65, 66, 67, 68, 69, 70, 71, 72, 73, 25, 74, 75, 76, 77, 78, 79, 80, 81, 82, 83, 84, 103, 104, 105, 106, 107, 99, 100, 101, 102, 108, 109] (by decide +kernel) (by decide +kernel)
set_option maxRecDepth 20000 in
theorem gX10_groundsNeeded_X0_carryOut : GoodIn wsX10_groundsNeeded (wsV RX10 257 RX0 yX0_carryOut wsX0_carryOut) := goodIn_app (goodIn_of _ (by decide +kernel)) ggX10_groundsNeeded_X0_carryOut
theorem dX10_groundsNeeded_0 : decode cX10_groundsNeeded 0 = .ok (.iconst 0, 1) := by decide +kernel
theorem dX10_groundsNeeded_1 : decode cX10_groundsNeeded 1 = .ok (.istore_n 1, 1) := by decide +kernel
theorem dX10_groundsNeeded_2 : decode cX10_groundsNeeded 2 = .ok (.aload_n 0, 1) := by decide +kernel
theorem dX10_groundsNeeded_3 : decode cX10_groundsNeeded 3 = .ok (.getfield 26, 3) := by decide +kernel
theorem dX10_groundsNeeded_6 : decode cX10_groundsNeeded 6 = .ok (.aload_n 0, 1) := by decide +kernel
theorem dX10_groundsNeeded_7 : decode cX10_groundsNeeded 7 = .ok (.getfield 10, 3) := by decide +kernel
theorem dX10_groundsNeeded_10 : decode cX10_groundsNeeded 10 = .ok (.getfield 136, 3) := by decide +kernel
theorem dX10_groundsNeeded_13 : decode cX10_groundsNeeded 13 = .ok (.aload_n 0, 1) := by decide +kernel
theorem dX10_groundsNeeded_14 : decode cX10_groundsNeeded 14 = .ok (.getfield 10, 3) := by decide +kernel
theorem dX10_groundsNeeded_17 : decode cX10_groundsNeeded 17 = .ok (.invokevirtual 121, 3) := by decide +kernel
theorem dX10_groundsNeeded_20 : decode cX10_groundsNeeded 20 = .ok (.invokevirtual 140, 3) := by decide +kernel
theorem dX10_groundsNeeded_23 : decode cX10_groundsNeeded 23 = .ok (.iconst 0, 1) := by decide +kernel
theorem dX10_groundsNeeded_24 : decode cX10_groundsNeeded 24 = .ok (.istore_n 2, 1) := by decide +kernel
theorem dX10_groundsNeeded_25 : decode cX10_groundsNeeded 25 = .ok (.iload_n 2, 1) := by decide +kernel
theorem dX10_groundsNeeded_26 : decode cX10_groundsNeeded 26 = .ok (.aload_n 0, 1) := by decide +kernel
theorem dX10_groundsNeeded_27 : decode cX10_groundsNeeded 27 = .ok (.getfield 10, 3) := by decide +kernel
theorem dX10_groundsNeeded_30 : decode cX10_groundsNeeded 30 = .ok (.getfield 64, 3) := by decide +kernel
theorem dX10_groundsNeeded_33 : decode cX10_groundsNeeded 33 = .ok (.getfield 100, 3) := by decide +kernel
theorem dX10_groundsNeeded_36 : decode cX10_groundsNeeded 36 = .ok (.if_icmp .ge 96, 3) := by decide +kernel
theorem dX10_groundsNeeded_39 : decode cX10_groundsNeeded 39 = .ok (.aload_n 0, 1) := by decide +kernel
theorem dX10_groundsNeeded_40 : decode cX10_groundsNeeded 40 = .ok (.getfield 26, 3) := by decide +kernel
theorem dX10_groundsNeeded_43 : decode cX10_groundsNeeded 43 = .ok (.getfield 247, 3) := by decide +kernel
theorem dX10_groundsNeeded_46 : decode cX10_groundsNeeded 46 = .ok (.fstore_n 3, 1) := by decide +kernel
theorem dX10_groundsNeeded_47 : decode cX10_groundsNeeded 47 = .ok (.aload_n 0, 1) := by decide +kernel
theorem dX10_groundsNeeded_48 : decode cX10_groundsNeeded 48 = .ok (.getfield 26, 3) := by decide +kernel
theorem dX10_groundsNeeded_51 : decode cX10_groundsNeeded 51 = .ok (.getfield 255, 3) := by decide +kernel
theorem dX10_groundsNeeded_54 : decode cX10_groundsNeeded 54 = .ok (.istore 4, 2) := by decide +kernel
theorem dX10_groundsNeeded_56 : decode cX10_groundsNeeded 56 = .ok (.aload_n 0, 1) := by decide +kernel
theorem dX10_groundsNeeded_57 : decode cX10_groundsNeeded 57 = .ok (.getfield 26, 3) := by decide +kernel
theorem dX10_groundsNeeded_60 : decode cX10_groundsNeeded 60 = .ok (.aload_n 0, 1) := by decide +kernel
theorem dX10_groundsNeeded_61 : decode cX10_groundsNeeded 61 = .ok (.getfield 10, 3) := by decide +kernel
theorem dX10_groundsNeeded_64 : decode cX10_groundsNeeded 64 = .ok (.getfield 64, 3) := by decide +kernel
theorem dX10_groundsNeeded_67 : decode cX10_groundsNeeded 67 = .ok (.iload_n 2, 1) := by decide +kernel
theorem dX10_groundsNeeded_68 : decode cX10_groundsNeeded 68 = .ok (.invokevirtual 266, 3) := by decide +kernel
theorem dX10_groundsNeeded_71 : decode cX10_groundsNeeded 71 = .ok (.aload_n 0, 1) := by decide +kernel
theorem dX10_groundsNeeded_72 : decode cX10_groundsNeeded 72 = .ok (.getfield 26, 3) := by decide +kernel
theorem dX10_groundsNeeded_75 : decode cX10_groundsNeeded 75 = .ok (.getfield 241, 3) := by decide +kernel
theorem dX10_groundsNeeded_78 : decode cX10_groundsNeeded 78 = .ok (.ifCond .eq 48, 3) := by decide +kernel
theorem dX10_groundsNeeded_81 : decode cX10_groundsNeeded 81 = .ok (.iinc 1 1, 3) := by decide +kernel
theorem dX10_groundsNeeded_84 : decode cX10_groundsNeeded 84 = .ok (.aload_n 0, 1) := by decide +kernel
theorem dX10_groundsNeeded_85 : decode cX10_groundsNeeded 85 = .ok (.getfield 26, 3) := by decide +kernel
theorem dX10_groundsNeeded_88 : decode cX10_groundsNeeded 88 = .ok (.fload_n 3, 1) := by decide +kernel
theorem dX10_groundsNeeded_89 : decode cX10_groundsNeeded 89 = .ok (.iload 4, 2) := by decide +kernel
theorem dX10_groundsNeeded_91 : decode cX10_groundsNeeded 91 = .ok (.invokevirtual 140, 3) := by decide +kernel
theorem dX10_groundsNeeded_94 : decode cX10_groundsNeeded 94 = .ok (.aload_n 0, 1) := by decide +kernel
theorem dX10_groundsNeeded_95 : decode cX10_groundsNeeded 95 = .ok (.getfield 26, 3) := by decide +kernel
theorem dX10_groundsNeeded_98 : decode cX10_groundsNeeded 98 = .ok (.aload_n 0, 1) := by decide +kernel
theorem dX10_groundsNeeded_99 : decode cX10_groundsNeeded 99 = .ok (.getfield 10, 3) := by decide +kernel
theorem dX10_groundsNeeded_102 : decode cX10_groundsNeeded 102 = .ok (.getfield 64, 3) := by decide +kernel
theorem dX10_groundsNeeded_105 : decode cX10_groundsNeeded 105 = .ok (.bipush 8, 2) := by decide +kernel
theorem dX10_groundsNeeded_107 : decode cX10_groundsNeeded 107 = .ok (.iconst 0, 1) := by decide +kernel
theorem dX10_groundsNeeded_108 : decode cX10_groundsNeeded 108 = .ok (.invokevirtual 257, 3) := by decide +kernel
theorem dX10_groundsNeeded_111 : decode cX10_groundsNeeded 111 = .ok (.aload_n 0, 1) := by decide +kernel
theorem dX10_groundsNeeded_112 : decode cX10_groundsNeeded 112 = .ok (.getfield 26, 3) := by decide +kernel
theorem dX10_groundsNeeded_115 : decode cX10_groundsNeeded 115 = .ok (.aload_n 0, 1) := by decide +kernel
theorem dX10_groundsNeeded_116 : decode cX10_groundsNeeded 116 = .ok (.getfield 10, 3) := by decide +kernel
theorem dX10_groundsNeeded_119 : decode cX10_groundsNeeded 119 = .ok (.getfield 64, 3) := by decide +kernel
theorem dX10_groundsNeeded_122 : decode cX10_groundsNeeded 122 = .ok (.iload_n 2, 1) := by decide +kernel
theorem dX10_groundsNeeded_123 : decode cX10_groundsNeeded 123 = .ok (.invokevirtual 266, 3) := by decide +kernel
theorem dX10_groundsNeeded_126 : decode cX10_groundsNeeded 126 = .ok (.iinc 2 1, 3) := by decide +kernel
theorem dX10_groundsNeeded_129 : decode cX10_groundsNeeded 129 = .ok (.goto (-104), 3) := by decide +kernel
theorem dX10_groundsNeeded_132 : decode cX10_groundsNeeded 132 = .ok (.iload_n 1, 1) := by decide +kernel
theorem dX10_groundsNeeded_133 : decode cX10_groundsNeeded 133 = .ok (.ireturn, 1) := by decide +kernel
set_option maxRecDepth 20000 in
theorem ggX10_scanOnce_X0_carryOutEntry : GoodIn wsX10_scanOnce wsX0_carryOutEntry := goodIn_r _ [10, 11, 12, 13, 14, 15, 16, 17, 18, 19, 20, 21, 9, 22, 23, 24, 25, 26, 27, 28, 29, 30, 31, 32, 33, 34, 35, 36, 37, 38, 39, 40, 41, 42, 43, 44, 45, 46, 47, 48, 49, 50, 51, 52, 53, 54, 55, 56, 57, 58, 59, 60, 61, 62, 63, 64, 65, 66, 67, 68, 69, 70, 134, 135, 136, 137, 138, 139, 140, 141, 142, 143, 144] (by decide +kernel) (by decide +kernel)
set_option maxRecDepth 20000 in
theorem gX10_scanOnce_X0_carryOutEntry : GoodIn wsX10_scanOnce (wsV RX10 266 RX0 yX0_carryOutEntry wsX0_carryOutEntry) := goodIn_app (goodIn_of _ (by decide +kernel)) ggX10_scanOnce_X0_carryOutEntry
set_option maxRecDepth 20000 in
theorem ggX10_scanOnce_X7_at : GoodIn wsX10_scanOnce wsX7_at := goodIn_r _ [16, 17, 18, 138, 139] (by decide +kernel) (by decide +kernel)
set_option maxRecDepth 20000 in
theorem gX10_scanOnce_X7_at : GoodIn wsX10_scanOnce (wsV RX10 71 RX7 yX7_at wsX7_at) := goodIn_app (goodIn_of _ (by decide +kernel)) ggX10_scanOnce_X7_at
set_option maxRecDepth 20000 in
theorem ggX10_scanOnce_X3_slotsOfEntry : GoodIn wsX10_scanOnce wsX3_slotsOfEntry := goodIn_r _ [75, 76, 34, 13, 14, 15, 16, 17, 18, 134, 135, 136, 137, 138, 139] (by decide +kernel) (by decide +kernel)
set_option maxRecDepth 20000 in
theorem gX10_scanOnce_X3_slotsOfEntry : GoodIn wsX10_scanOnce (wsV RX10 270 RX3 yX3_slotsOfEntry wsX3_slotsOfEntry) := goodIn_app (goodIn_of _ (by decide +kernel)) ggX10_scanOnce_X3_slotsOfEntry
set_option maxRecDepth 20000 in
theorem ggX10_scanOnce_X6_book : GoodIn wsX10_scanOnce wsX6_book := goodIn_r _ [81, 82, 83, 84, 85, 86, 87, 41, 88, 89, 90, 91, 92, 93, 94, 95, 96, 97, 98, 99, 100, 101, 102, 40, 42, 103, 104, 105, 15, 106, 17, 18, 107, 108, 109, 9, 110, 26, 24, 111, 112, 113, 80, 114, 115, 116, 117, 118, 119, 120, 13, 14, 16, 127, 128, 129, 130, 131, 132, 133, 140, 141, 142, 143, 144, 145, 146, 147, 138, 139] (by decide +kernel) (by decide +kernel)
set_option maxRecDepth 20000 in
theorem gX10_scanOnce_X6_book : GoodIn wsX10_scanOnce (wsV RX10 273 RX6 yX6_book wsX6_book) := goodIn_app (goodIn_of _ (by decide +kernel)) ggX10_scanOnce_X6_book
theorem dX10_scanOnce_0 : decode cX10_scanOnce 0 = .ok (.iconst 0, 1) := by decide +kernel
theorem dX10_scanOnce_1 : decode cX10_scanOnce 1 = .ok (.istore_n 1, 1) := by decide +kernel
theorem dX10_scanOnce_2 : decode cX10_scanOnce 2 = .ok (.iload_n 1, 1) := by decide +kernel
theorem dX10_scanOnce_3 : decode cX10_scanOnce 3 = .ok (.aload_n 0, 1) := by decide +kernel
theorem dX10_scanOnce_4 : decode cX10_scanOnce 4 = .ok (.getfield 10, 3) := by decide +kernel
theorem dX10_scanOnce_7 : decode cX10_scanOnce 7 = .ok (.getfield 64, 3) := by decide +kernel
theorem dX10_scanOnce_10 : decode cX10_scanOnce 10 = .ok (.getfield 100, 3) := by decide +kernel
theorem dX10_scanOnce_13 : decode cX10_scanOnce 13 = .ok (.if_icmp .ge 61, 3) := by decide +kernel
theorem dX10_scanOnce_16 : decode cX10_scanOnce 16 = .ok (.aload_n 0, 1) := by decide +kernel
theorem dX10_scanOnce_17 : decode cX10_scanOnce 17 = .ok (.getfield 26, 3) := by decide +kernel
theorem dX10_scanOnce_20 : decode cX10_scanOnce 20 = .ok (.aload_n 0, 1) := by decide +kernel
theorem dX10_scanOnce_21 : decode cX10_scanOnce 21 = .ok (.getfield 10, 3) := by decide +kernel
theorem dX10_scanOnce_24 : decode cX10_scanOnce 24 = .ok (.getfield 64, 3) := by decide +kernel
theorem dX10_scanOnce_27 : decode cX10_scanOnce 27 = .ok (.iload_n 1, 1) := by decide +kernel
theorem dX10_scanOnce_28 : decode cX10_scanOnce 28 = .ok (.invokevirtual 266, 3) := by decide +kernel
theorem dX10_scanOnce_31 : decode cX10_scanOnce 31 = .ok (.aload_n 0, 1) := by decide +kernel
theorem dX10_scanOnce_32 : decode cX10_scanOnce 32 = .ok (.getfield 10, 3) := by decide +kernel
theorem dX10_scanOnce_35 : decode cX10_scanOnce 35 = .ok (.aload_n 0, 1) := by decide +kernel
theorem dX10_scanOnce_36 : decode cX10_scanOnce 36 = .ok (.getfield 10, 3) := by decide +kernel
theorem dX10_scanOnce_39 : decode cX10_scanOnce 39 = .ok (.getfield 64, 3) := by decide +kernel
theorem dX10_scanOnce_42 : decode cX10_scanOnce 42 = .ok (.getfield 118, 3) := by decide +kernel
theorem dX10_scanOnce_45 : decode cX10_scanOnce 45 = .ok (.iload_n 1, 1) := by decide +kernel
theorem dX10_scanOnce_46 : decode cX10_scanOnce 46 = .ok (.iconst 0, 1) := by decide +kernel
theorem dX10_scanOnce_47 : decode cX10_scanOnce 47 = .ok (.invokevirtual 71, 3) := by decide +kernel
theorem dX10_scanOnce_50 : decode cX10_scanOnce 50 = .ok (.aload_n 0, 1) := by decide +kernel
theorem dX10_scanOnce_51 : decode cX10_scanOnce 51 = .ok (.getfield 10, 3) := by decide +kernel
theorem dX10_scanOnce_54 : decode cX10_scanOnce 54 = .ok (.getfield 64, 3) := by decide +kernel
theorem dX10_scanOnce_57 : decode cX10_scanOnce 57 = .ok (.iload_n 1, 1) := by decide +kernel
theorem dX10_scanOnce_58 : decode cX10_scanOnce 58 = .ok (.invokevirtual 270, 3) := by decide +kernel
theorem dX10_scanOnce_61 : decode cX10_scanOnce 61 = .ok (.aload_n 0, 1) := by decide +kernel
theorem dX10_scanOnce_62 : decode cX10_scanOnce 62 = .ok (.getfield 26, 3) := by decide +kernel
theorem dX10_scanOnce_65 : decode cX10_scanOnce 65 = .ok (.invokevirtual 273, 3) := by decide +kernel
theorem dX10_scanOnce_68 : decode cX10_scanOnce 68 = .ok (.iinc 1 1, 3) := by decide +kernel
theorem dX10_scanOnce_71 : decode cX10_scanOnce 71 = .ok (.goto (-69), 3) := by decide +kernel
theorem dX10_scanOnce_74 : decode cX10_scanOnce 74 = .ok (.return_, 1) := by decide +kernel
set_option maxRecDepth 20000 in
theorem ggX10_tryEntries_X6_time : GoodIn wsX10_tryEntries wsX6_time := goodIn_r _ [13, 14, 15, 16, 17, 18, 19, 20, 21, 90, 91, 92, 93, 94, 95, 96, 102, 103] (by decide +kernel) (by decide +kernel)
set_option maxRecDepth 20000 in
theorem gX10_tryEntries_X6_time : GoodIn wsX10_tryEntries (wsV RX10 121 RX6 yX6_time wsX6_time) := goodIn_app (goodIn_of _ (by decide +kernel)) ggX10_tryEntries_X6_time
set_option maxRecDepth 20000 in
theorem ggX10_tryEntries_X0_start : GoodIn wsX10_tryEntries wsX0_start := goodIn_r _ [26, 27, 28, 97, 98, 99, 100, 101] (by decide +kernel) (by decide +kernel)
set_option maxRecDepth 20000 in
theorem gX10_tryEntries_X0_start : GoodIn wsX10_tryEntries (wsV RX10 140 RX0 yX0_start wsX0_start) := goodIn_app (goodIn_of _ (by decide +kernel)) ggX10_tryEntries_X0_start
set_option maxRecDepth 20000 in
theorem ggX10_tryEntries_X0_carryOutEntry : GoodIn wsX10_tryEntries wsX0_carryOutEntry := goodIn_r _ [32, 33, 34, 16, 17, 18, 19, 20, 21, 35, 36, 37, 25, 38, 28, 39, 27, 40, 41, 42, 43, 44, 45, 46, 47, 48, 49, 50, 51, 52, 53, 54, 7, 55, 56, 57, 58, 59, 60, 61, 62, 63, 64, 65, 66, 67, 68, 69, 70, 71, 72, 73, 74, 75, 76, 77, 78, 79, 80, 81, 82, 83, 104, 105, 106, 107, 102, 103, 97, 98, 99, 100, 101] (by decide +kernel) (by decide +kernel)
set_option maxRecDepth 20000 in
theorem gX10_tryEntries_X0_carryOutEntry : GoodIn wsX10_tryEntries (wsV RX10 266 RX0 yX0_carryOutEntry wsX0_carryOutEntry) := goodIn_app (goodIn_of _ (by decide +kernel)) ggX10_tryEntries_X0_carryOutEntry
theorem dX10_tryEntries_0 : decode cX10_tryEntries 0 = .ok (.iconst 0, 1) := by decide +kernel
theorem dX10_tryEntries_1 : decode cX10_tryEntries 1 = .ok (.istore_n 3, 1) := by decide +kernel
theorem dX10_tryEntries_2 : decode cX10_tryEntries 2 = .ok (.aload_n 0, 1) := by decide +kernel
theorem dX10_tryEntries_3 : decode cX10_tryEntries 3 = .ok (.getfield 26, 3) := by decide +kernel
theorem dX10_tryEntries_6 : decode cX10_tryEntries 6 = .ok (.aload_n 0, 1) := by decide +kernel
theorem dX10_tryEntries_7 : decode cX10_tryEntries 7 = .ok (.getfield 10, 3) := by decide +kernel
theorem dX10_tryEntries_10 : decode cX10_tryEntries 10 = .ok (.getfield 136, 3) := by decide +kernel
theorem dX10_tryEntries_13 : decode cX10_tryEntries 13 = .ok (.aload_n 0, 1) := by decide +kernel
theorem dX10_tryEntries_14 : decode cX10_tryEntries 14 = .ok (.getfield 10, 3) := by decide +kernel
theorem dX10_tryEntries_17 : decode cX10_tryEntries 17 = .ok (.invokevirtual 121, 3) := by decide +kernel
theorem dX10_tryEntries_20 : decode cX10_tryEntries 20 = .ok (.invokevirtual 140, 3) := by decide +kernel
theorem dX10_tryEntries_23 : decode cX10_tryEntries 23 = .ok (.iconst 0, 1) := by decide +kernel
theorem dX10_tryEntries_24 : decode cX10_tryEntries 24 = .ok (.istore 4, 2) := by decide +kernel
theorem dX10_tryEntries_26 : decode cX10_tryEntries 26 = .ok (.iload 4, 2) := by decide +kernel
theorem dX10_tryEntries_28 : decode cX10_tryEntries 28 = .ok (.iload_n 2, 1) := by decide +kernel
theorem dX10_tryEntries_29 : decode cX10_tryEntries 29 = .ok (.if_icmp .ge 32, 3) := by decide +kernel
theorem dX10_tryEntries_32 : decode cX10_tryEntries 32 = .ok (.aload_n 0, 1) := by decide +kernel
theorem dX10_tryEntries_33 : decode cX10_tryEntries 33 = .ok (.getfield 26, 3) := by decide +kernel
theorem dX10_tryEntries_36 : decode cX10_tryEntries 36 = .ok (.aload_n 1, 1) := by decide +kernel
theorem dX10_tryEntries_37 : decode cX10_tryEntries 37 = .ok (.iload 4, 2) := by decide +kernel
theorem dX10_tryEntries_39 : decode cX10_tryEntries 39 = .ok (.invokevirtual 266, 3) := by decide +kernel
theorem dX10_tryEntries_42 : decode cX10_tryEntries 42 = .ok (.iload_n 3, 1) := by decide +kernel
theorem dX10_tryEntries_43 : decode cX10_tryEntries 43 = .ok (.aload_n 0, 1) := by decide +kernel
theorem dX10_tryEntries_44 : decode cX10_tryEntries 44 = .ok (.getfield 26, 3) := by decide +kernel
theorem dX10_tryEntries_47 : decode cX10_tryEntries 47 = .ok (.getfield 241, 3) := by decide +kernel
theorem dX10_tryEntries_50 : decode cX10_tryEntries 50 = .ok (.invokestatic 261, 3) := by decide +kernel
theorem dX10_tryEntries_53 : decode cX10_tryEntries 53 = .ok (.iadd, 1) := by decide +kernel
theorem dX10_tryEntries_54 : decode cX10_tryEntries 54 = .ok (.istore_n 3, 1) := by decide +kernel
theorem dX10_tryEntries_55 : decode cX10_tryEntries 55 = .ok (.iinc 4 1, 3) := by decide +kernel
theorem dX10_tryEntries_58 : decode cX10_tryEntries 58 = .ok (.goto (-32), 3) := by decide +kernel
theorem dX10_tryEntries_61 : decode cX10_tryEntries 61 = .ok (.iload_n 3, 1) := by decide +kernel
theorem dX10_tryEntries_62 : decode cX10_tryEntries 62 = .ok (.ireturn, 1) := by decide +kernel
set_option maxRecDepth 20000 in
theorem ggX10_isEntry_X10_isWithin : GoodIn wsX10_isEntry wsX10_isWithin := goodIn_r _ [7] (by decide +kernel) (by decide +kernel)
set_option maxRecDepth 20000 in
theorem gX10_isEntry_X10_isWithin : GoodIn wsX10_isEntry (va_wsS RX10 81 yX10_isWithin wsX10_isWithin) := goodIn_app (goodIn_of _ (by decide +kernel)) ggX10_isEntry_X10_isWithin
theorem dX10_isEntry_0 : decode cX10_isEntry 0 = .ok (.iload_n 1, 1) := by decide +kernel
theorem dX10_isEntry_1 : decode cX10_isEntry 1 = .ok (.iconst 0, 1) := by decide +kernel
theorem dX10_isEntry_2 : decode cX10_isEntry 2 = .ok (.aload_n 0, 1) := by decide +kernel
theorem dX10_isEntry_3 : decode cX10_isEntry 3 = .ok (.getfield 10, 3) := by decide +kernel
theorem dX10_isEntry_6 : decode cX10_isEntry 6 = .ok (.getfield 64, 3) := by decide +kernel
theorem dX10_isEntry_9 : decode cX10_isEntry 9 = .ok (.getfield 100, 3) := by decide +kernel
theorem dX10_isEntry_12 : decode cX10_isEntry 12 = .ok (.iconst 1, 1) := by decide +kernel
theorem dX10_isEntry_13 : decode cX10_isEntry 13 = .ok (.isub, 1) := by decide +kernel
theorem dX10_isEntry_14 : decode cX10_isEntry 14 = .ok (.invokestatic 81, 3) := by decide +kernel
theorem dX10_isEntry_17 : decode cX10_isEntry 17 = .ok (.ireturn, 1) := by decide +kernel
theorem dX10_isWithin_0 : decode cX10_isWithin 0 = .ok (.iload_n 0, 1) := by decide +kernel
theorem dX10_isWithin_1 : decode cX10_isWithin 1 = .ok (.iload_n 1, 1) := by decide +kernel
theorem dX10_isWithin_2 : decode cX10_isWithin 2 = .ok (.if_icmp .lt 12, 3) := by decide +kernel
theorem dX10_isWithin_5 : decode cX10_isWithin 5 = .ok (.iload_n 0, 1) := by decide +kernel
theorem dX10_isWithin_6 : decode cX10_isWithin 6 = .ok (.iload_n 2, 1) := by decide +kernel
theorem dX10_isWithin_7 : decode cX10_isWithin 7 = .ok (.if_icmp .gt 7, 3) := by decide +kernel
theorem dX10_isWithin_10 : decode cX10_isWithin 10 = .ok (.iconst 1, 1) := by decide +kernel
theorem dX10_isWithin_11 : decode cX10_isWithin 11 = .ok (.goto 4, 3) := by decide +kernel
theorem dX10_isWithin_14 : decode cX10_isWithin 14 = .ok (.iconst 0, 1) := by decide +kernel
theorem dX10_isWithin_15 : decode cX10_isWithin 15 = .ok (.ireturn, 1) := by decide +kernel
set_option maxRecDepth 20000 in
theorem ggX10_isChannel_X10_isWithin : GoodIn wsX10_isChannel wsX10_isWithin := goodIn_r _ [4] (by decide +kernel) (by decide +kernel)
set_option maxRecDepth 20000 in
theorem gX10_isChannel_X10_isWithin : GoodIn wsX10_isChannel (va_wsS RX10 81 yX10_isWithin wsX10_isWithin) := goodIn_app (goodIn_of _ (by decide +kernel)) ggX10_isChannel_X10_isWithin
theorem dX10_isChannel_0 : decode cX10_isChannel 0 = .ok (.iload_n 0, 1) := by decide +kernel
theorem dX10_isChannel_1 : decode cX10_isChannel 1 = .ok (.iconst 0, 1) := by decide +kernel
theorem dX10_isChannel_2 : decode cX10_isChannel 2 = .ok (.bipush 7, 2) := by decide +kernel
theorem dX10_isChannel_4 : decode cX10_isChannel 4 = .ok (.invokestatic 81, 3) := by decide +kernel
theorem dX10_isChannel_7 : decode cX10_isChannel 7 = .ok (.ireturn, 1) := by decide +kernel
set_option maxRecDepth 20000 in
theorem ggX10_isSettle_X10_isWithin : GoodIn wsX10_isSettle wsX10_isWithin := goodIn_r _ [4] (by decide +kernel) (by decide +kernel)
set_option maxRecDepth 20000 in
theorem gX10_isSettle_X10_isWithin : GoodIn wsX10_isSettle (va_wsS RX10 81 yX10_isWithin wsX10_isWithin) := goodIn_app (goodIn_of _ (by decide +kernel)) ggX10_isSettle_X10_isWithin
theorem dX10_isSettle_0 : decode cX10_isSettle 0 = .ok (.iload_n 0, 1) := by decide +kernel
theorem dX10_isSettle_1 : decode cX10_isSettle 1 = .ok (.iconst 0, 1) := by decide +kernel
theorem dX10_isSettle_2 : decode cX10_isSettle 2 = .ok (.bipush 7, 2) := by decide +kernel
theorem dX10_isSettle_4 : decode cX10_isSettle 4 = .ok (.invokestatic 81, 3) := by decide +kernel
theorem dX10_isSettle_7 : decode cX10_isSettle 7 = .ok (.ireturn, 1) := by decide +kernel
set_option maxRecDepth 20000 in
theorem ggX10_isSnapshotPlace_X10_isWithin : GoodIn wsX10_isSnapshotPlace wsX10_isWithin := goodIn_r _ [4] (by decide +kernel) (by decide +kernel)
set_option maxRecDepth 20000 in
theorem gX10_isSnapshotPlace_X10_isWithin : GoodIn wsX10_isSnapshotPlace (va_wsS RX10 81 yX10_isWithin wsX10_isWithin) := goodIn_app (goodIn_of _ (by decide +kernel)) ggX10_isSnapshotPlace_X10_isWithin
theorem dX10_isSnapshotPlace_0 : decode cX10_isSnapshotPlace 0 = .ok (.iload_n 0, 1) := by decide +kernel
theorem dX10_isSnapshotPlace_1 : decode cX10_isSnapshotPlace 1 = .ok (.iconst 0, 1) := by decide +kernel
theorem dX10_isSnapshotPlace_2 : decode cX10_isSnapshotPlace 2 = .ok (.iconst 1, 1) := by decide +kernel
theorem dX10_isSnapshotPlace_3 : decode cX10_isSnapshotPlace 3 = .ok (.invokestatic 81, 3) := by decide +kernel
theorem dX10_isSnapshotPlace_6 : decode cX10_isSnapshotPlace 6 = .ok (.ireturn, 1) := by decide +kernel
set_option maxRecDepth 20000 in
theorem ggX10_isSource_X10_isWithin : GoodIn wsX10_isSource wsX10_isWithin := goodIn_r _ [4] (by decide +kernel) (by decide +kernel)
set_option maxRecDepth 20000 in
theorem gX10_isSource_X10_isWithin : GoodIn wsX10_isSource (va_wsS RX10 81 yX10_isWithin wsX10_isWithin) := goodIn_app (goodIn_of _ (by decide +kernel)) ggX10_isSource_X10_isWithin
theorem dX10_isSource_0 : decode cX10_isSource 0 = .ok (.iload_n 1, 1) := by decide +kernel
theorem dX10_isSource_1 : decode cX10_isSource 1 = .ok (.iconst 0, 1) := by decide +kernel
theorem dX10_isSource_2 : decode cX10_isSource 2 = .ok (.sipush 4095, 3) := by decide +kernel
theorem dX10_isSource_5 : decode cX10_isSource 5 = .ok (.invokestatic 81, 3) := by decide +kernel
theorem dX10_isSource_8 : decode cX10_isSource 8 = .ok (.ifCond .ne 5, 3) := by decide +kernel
theorem dX10_isSource_11 : decode cX10_isSource 11 = .ok (.iconst 0, 1) := by decide +kernel
theorem dX10_isSource_12 : decode cX10_isSource 12 = .ok (.ireturn, 1) := by decide +kernel
theorem dX10_isSource_13 : decode cX10_isSource 13 = .ok (.iload_n 0, 1) := by decide +kernel
theorem dX10_isSource_14 : decode cX10_isSource 14 = .ok (.tableswitch 89 0 2 #[26, 40, 61], 26) := by decide +kernel
theorem dX10_isSource_40 : decode cX10_isSource 40 = .ok (.iload_n 2, 1) := by decide +kernel
theorem dX10_isSource_41 : decode cX10_isSource 41 = .ok (.ifCond .ne 11, 3) := by decide +kernel
theorem dX10_isSource_44 : decode cX10_isSource 44 = .ok (.iload_n 3, 1) := by decide +kernel
theorem dX10_isSource_45 : decode cX10_isSource 45 = .ok (.ifCond .ne 7, 3) := by decide +kernel
theorem dX10_isSource_48 : decode cX10_isSource 48 = .ok (.iconst 1, 1) := by decide +kernel
theorem dX10_isSource_49 : decode cX10_isSource 49 = .ok (.goto 4, 3) := by decide +kernel
theorem dX10_isSource_52 : decode cX10_isSource 52 = .ok (.iconst 0, 1) := by decide +kernel
theorem dX10_isSource_53 : decode cX10_isSource 53 = .ok (.ireturn, 1) := by decide +kernel
theorem dX10_isSource_54 : decode cX10_isSource 54 = .ok (.iload_n 2, 1) := by decide +kernel
theorem dX10_isSource_55 : decode cX10_isSource 55 = .ok (.bipush (-64), 2) := by decide +kernel
theorem dX10_isSource_57 : decode cX10_isSource 57 = .ok (.bipush 64, 2) := by decide +kernel
theorem dX10_isSource_59 : decode cX10_isSource 59 = .ok (.invokestatic 81, 3) := by decide +kernel
theorem dX10_isSource_62 : decode cX10_isSource 62 = .ok (.ifCond .eq 11, 3) := by decide +kernel
theorem dX10_isSource_65 : decode cX10_isSource 65 = .ok (.iload_n 3, 1) := by decide +kernel
theorem dX10_isSource_66 : decode cX10_isSource 66 = .ok (.ifCond .ne 7, 3) := by decide +kernel
theorem dX10_isSource_69 : decode cX10_isSource 69 = .ok (.iconst 1, 1) := by decide +kernel
theorem dX10_isSource_70 : decode cX10_isSource 70 = .ok (.goto 4, 3) := by decide +kernel
theorem dX10_isSource_73 : decode cX10_isSource 73 = .ok (.iconst 0, 1) := by decide +kernel
theorem dX10_isSource_74 : decode cX10_isSource 74 = .ok (.ireturn, 1) := by decide +kernel
theorem dX10_isSource_75 : decode cX10_isSource 75 = .ok (.iload_n 2, 1) := by decide +kernel
theorem dX10_isSource_76 : decode cX10_isSource 76 = .ok (.iconst 0, 1) := by decide +kernel
theorem dX10_isSource_77 : decode cX10_isSource 77 = .ok (.sipush 4095, 3) := by decide +kernel
theorem dX10_isSource_80 : decode cX10_isSource 80 = .ok (.invokestatic 81, 3) := by decide +kernel
theorem dX10_isSource_83 : decode cX10_isSource 83 = .ok (.ifCond .eq 18, 3) := by decide +kernel
theorem dX10_isSource_86 : decode cX10_isSource 86 = .ok (.iload_n 3, 1) := by decide +kernel
theorem dX10_isSource_87 : decode cX10_isSource 87 = .ok (.iconst 2, 1) := by decide +kernel
theorem dX10_isSource_88 : decode cX10_isSource 88 = .ok (.sipush 200, 3) := by decide +kernel
theorem dX10_isSource_91 : decode cX10_isSource 91 = .ok (.invokestatic 81, 3) := by decide +kernel
theorem dX10_isSource_94 : decode cX10_isSource 94 = .ok (.ifCond .eq 7, 3) := by decide +kernel
theorem dX10_isSource_97 : decode cX10_isSource 97 = .ok (.iconst 1, 1) := by decide +kernel
theorem dX10_isSource_98 : decode cX10_isSource 98 = .ok (.goto 4, 3) := by decide +kernel
theorem dX10_isSource_101 : decode cX10_isSource 101 = .ok (.iconst 0, 1) := by decide +kernel
theorem dX10_isSource_102 : decode cX10_isSource 102 = .ok (.ireturn, 1) := by decide +kernel
theorem dX10_isSource_103 : decode cX10_isSource 103 = .ok (.iconst 0, 1) := by decide +kernel
theorem dX10_isSource_104 : decode cX10_isSource 104 = .ok (.ireturn, 1) := by decide +kernel
set_option maxRecDepth 20000 in
theorem ggX10_isSetting_X10_isWithin : GoodIn wsX10_isSetting wsX10_isWithin := goodIn_r _ [4] (by decide +kernel) (by decide +kernel)
set_option maxRecDepth 20000 in
theorem gX10_isSetting_X10_isWithin : GoodIn wsX10_isSetting (va_wsS RX10 81 yX10_isWithin wsX10_isWithin) := goodIn_app (goodIn_of _ (by decide +kernel)) ggX10_isSetting_X10_isWithin
theorem dX10_isSetting_0 : decode cX10_isSetting 0 = .ok (.iload_n 0, 1) := by decide +kernel
theorem dX10_isSetting_1 : decode cX10_isSetting 1 = .ok (.tableswitch 56 0 2 #[27, 36, 47], 27) := by decide +kernel
theorem dX10_isSetting_28 : decode cX10_isSetting 28 = .ok (.iload_n 1, 1) := by decide +kernel
theorem dX10_isSetting_29 : decode cX10_isSetting 29 = .ok (.iconst 0, 1) := by decide +kernel
theorem dX10_isSetting_30 : decode cX10_isSetting 30 = .ok (.sipush 4095, 3) := by decide +kernel
theorem dX10_isSetting_33 : decode cX10_isSetting 33 = .ok (.invokestatic 81, 3) := by decide +kernel
theorem dX10_isSetting_36 : decode cX10_isSetting 36 = .ok (.ireturn, 1) := by decide +kernel
theorem dX10_isSetting_37 : decode cX10_isSetting 37 = .ok (.iload_n 1, 1) := by decide +kernel
theorem dX10_isSetting_38 : decode cX10_isSetting 38 = .ok (.sipush 900, 3) := by decide +kernel
theorem dX10_isSetting_41 : decode cX10_isSetting 41 = .ok (.sipush 1100, 3) := by decide +kernel
theorem dX10_isSetting_44 : decode cX10_isSetting 44 = .ok (.invokestatic 81, 3) := by decide +kernel
theorem dX10_isSetting_47 : decode cX10_isSetting 47 = .ok (.ireturn, 1) := by decide +kernel
theorem dX10_isSetting_48 : decode cX10_isSetting 48 = .ok (.iload_n 1, 1) := by decide +kernel
theorem dX10_isSetting_49 : decode cX10_isSetting 49 = .ok (.bipush (-100), 2) := by decide +kernel
theorem dX10_isSetting_51 : decode cX10_isSetting 51 = .ok (.bipush 100, 2) := by decide +kernel
theorem dX10_isSetting_53 : decode cX10_isSetting 53 = .ok (.invokestatic 81, 3) := by decide +kernel
theorem dX10_isSetting_56 : decode cX10_isSetting 56 = .ok (.ireturn, 1) := by decide +kernel
theorem dX10_isSetting_57 : decode cX10_isSetting 57 = .ok (.iconst 0, 1) := by decide +kernel
theorem dX10_isSetting_58 : decode cX10_isSetting 58 = .ok (.ireturn, 1) := by decide +kernel
theorem dX10_readingWith_0 : decode cX10_readingWith 0 = .ok (.fload_n 0, 1) := by decide +kernel
theorem dX10_readingWith_1 : decode cX10_readingWith 1 = .ok (.iload_n 1, 1) := by decide +kernel
theorem dX10_readingWith_2 : decode cX10_readingWith 2 = .ok (.i2f, 1) := by decide +kernel
theorem dX10_readingWith_3 : decode cX10_readingWith 3 = .ok (.ldc_w 277, 3) := by decide +kernel
theorem dX10_readingWith_6 : decode cX10_readingWith 6 = .ok (.fdiv, 1) := by decide +kernel
theorem dX10_readingWith_7 : decode cX10_readingWith 7 = .ok (.fmul, 1) := by decide +kernel
theorem dX10_readingWith_8 : decode cX10_readingWith 8 = .ok (.iload_n 2, 1) := by decide +kernel
theorem dX10_readingWith_9 : decode cX10_readingWith 9 = .ok (.i2f, 1) := by decide +kernel
theorem dX10_readingWith_10 : decode cX10_readingWith 10 = .ok (.fadd, 1) := by decide +kernel
theorem dX10_readingWith_11 : decode cX10_readingWith 11 = .ok (.ldc_w 278, 3) := by decide +kernel
theorem dX10_readingWith_14 : decode cX10_readingWith 14 = .ok (.fadd, 1) := by decide +kernel
theorem dX10_readingWith_15 : decode cX10_readingWith 15 = .ok (.fstore_n 3, 1) := by decide +kernel
theorem dX10_readingWith_16 : decode cX10_readingWith 16 = .ok (.fload_n 3, 1) := by decide +kernel
theorem dX10_readingWith_17 : decode cX10_readingWith 17 = .ok (.fconst 0, 1) := by decide +kernel
theorem dX10_readingWith_18 : decode cX10_readingWith 18 = .ok (.fcmp .g, 1) := by decide +kernel
theorem dX10_readingWith_19 : decode cX10_readingWith 19 = .ok (.ifCond .ge 7, 3) := by decide +kernel
theorem dX10_readingWith_22 : decode cX10_readingWith 22 = .ok (.iconst 0, 1) := by decide +kernel
theorem dX10_readingWith_23 : decode cX10_readingWith 23 = .ok (.goto 11, 3) := by decide +kernel
theorem dX10_readingWith_26 : decode cX10_readingWith 26 = .ok (.fload_n 3, 1) := by decide +kernel
theorem dX10_readingWith_27 : decode cX10_readingWith 27 = .ok (.f2i, 1) := by decide +kernel
theorem dX10_readingWith_28 : decode cX10_readingWith 28 = .ok (.sipush 4095, 3) := by decide +kernel
theorem dX10_readingWith_31 : decode cX10_readingWith 31 = .ok (.invokestatic 279, 3) := by decide +kernel
theorem dX10_readingWith_34 : decode cX10_readingWith 34 = .ok (.ireturn, 1) := by decide +kernel
