theorem dX10_settleFor_0 : decode cX10_settleFor 0 = .ok (.aload_n 0, 1) := by decide +kernel
theorem dX10_settleFor_1 : decode cX10_settleFor 1 = .ok (.iload_n 1, 1) := by decide +kernel
theorem dX10_settleFor_2 : decode cX10_settleFor 2 = .ok (.invokevirtual 111, 3) := by decide +kernel
theorem dX10_settleFor_5 : decode cX10_settleFor 5 = .ok (.ifCond .eq 14, 3) := by decide +kernel
theorem dX10_settleFor_8 : decode cX10_settleFor 8 = .ok (.iload_n 2, 1) := by decide +kernel
theorem dX10_settleFor_9 : decode cX10_settleFor 9 = .ok (.iconst 0, 1) := by decide +kernel
theorem dX10_settleFor_10 : decode cX10_settleFor 10 = .ok (.sipush 4095, 3) := by decide +kernel
theorem dX10_settleFor_13 : decode cX10_settleFor 13 = .ok (.invokestatic 81, 3) := by decide +kernel
theorem dX10_settleFor_16 : decode cX10_settleFor 16 = .ok (.ifCond .ne 6, 3) := by decide +kernel
theorem dX10_settleFor_19 : decode cX10_settleFor 19 = .ok (.ldc 59, 2) := by decide +kernel
theorem dX10_settleFor_21 : decode cX10_settleFor 21 = .ok (.ireturn, 1) := by decide +kernel
theorem dX10_settleFor_22 : decode cX10_settleFor 22 = .ok (.aload_n 0, 1) := by decide +kernel
theorem dX10_settleFor_23 : decode cX10_settleFor 23 = .ok (.aload_n 0, 1) := by decide +kernel
theorem dX10_settleFor_24 : decode cX10_settleFor 24 = .ok (.getfield 10, 3) := by decide +kernel
theorem dX10_settleFor_27 : decode cX10_settleFor 27 = .ok (.getfield 64, 3) := by decide +kernel
theorem dX10_settleFor_30 : decode cX10_settleFor 30 = .ok (.iload_n 1, 1) := by decide +kernel
theorem dX10_settleFor_31 : decode cX10_settleFor 31 = .ok (.invokevirtual 234, 3) := by decide +kernel
theorem dX10_settleFor_34 : decode cX10_settleFor 34 = .ok (.pop, 1) := by decide +kernel
theorem dX10_settleFor_35 : decode cX10_settleFor 35 = .ok (.aload_n 0, 1) := by decide +kernel
theorem dX10_settleFor_36 : decode cX10_settleFor 36 = .ok (.getfield 26, 3) := by decide +kernel
theorem dX10_settleFor_39 : decode cX10_settleFor 39 = .ok (.getfield 247, 3) := by decide +kernel
theorem dX10_settleFor_42 : decode cX10_settleFor 42 = .ok (.fstore_n 3, 1) := by decide +kernel
theorem dX10_settleFor_43 : decode cX10_settleFor 43 = .ok (.aload_n 0, 1) := by decide +kernel
theorem dX10_settleFor_44 : decode cX10_settleFor 44 = .ok (.getfield 26, 3) := by decide +kernel
theorem dX10_settleFor_47 : decode cX10_settleFor 47 = .ok (.getfield 255, 3) := by decide +kernel
theorem dX10_settleFor_50 : decode cX10_settleFor 50 = .ok (.istore 4, 2) := by decide +kernel
theorem dX10_settleFor_52 : decode cX10_settleFor 52 = .ok (.aload_n 0, 1) := by decide +kernel
theorem dX10_settleFor_53 : decode cX10_settleFor 53 = .ok (.getfield 10, 3) := by decide +kernel
theorem dX10_settleFor_56 : decode cX10_settleFor 56 = .ok (.getfield 64, 3) := by decide +kernel
theorem dX10_settleFor_59 : decode cX10_settleFor 59 = .ok (.getfield 118, 3) := by decide +kernel
theorem dX10_settleFor_62 : decode cX10_settleFor 62 = .ok (.iload_n 1, 1) := by decide +kernel
theorem dX10_settleFor_63 : decode cX10_settleFor 63 = .ok (.iconst 0, 1) := by decide +kernel
theorem dX10_settleFor_64 : decode cX10_settleFor 64 = .ok (.invokevirtual 71, 3) := by decide +kernel
theorem dX10_settleFor_67 : decode cX10_settleFor 67 = .ok (.istore 5, 2) := by decide +kernel
theorem dX10_settleFor_69 : decode cX10_settleFor 69 = .ok (.iconst 0, 1) := by decide +kernel
theorem dX10_settleFor_70 : decode cX10_settleFor 70 = .ok (.istore 6, 2) := by decide +kernel
theorem dX10_settleFor_72 : decode cX10_settleFor 72 = .ok (.iload 6, 2) := by decide +kernel
theorem dX10_settleFor_74 : decode cX10_settleFor 74 = .ok (.bipush 7, 2) := by decide +kernel
theorem dX10_settleFor_76 : decode cX10_settleFor 76 = .ok (.if_icmp .gt 54, 3) := by decide +kernel
theorem dX10_settleFor_79 : decode cX10_settleFor 79 = .ok (.aload_n 0, 1) := by decide +kernel
theorem dX10_settleFor_80 : decode cX10_settleFor 80 = .ok (.getfield 26, 3) := by decide +kernel
theorem dX10_settleFor_83 : decode cX10_settleFor 83 = .ok (.fload_n 3, 1) := by decide +kernel
theorem dX10_settleFor_84 : decode cX10_settleFor 84 = .ok (.iload 4, 2) := by decide +kernel
theorem dX10_settleFor_86 : decode cX10_settleFor 86 = .ok (.invokevirtual 140, 3) := by decide +kernel
theorem dX10_settleFor_89 : decode cX10_settleFor 89 = .ok (.aload_n 0, 1) := by decide +kernel
theorem dX10_settleFor_90 : decode cX10_settleFor 90 = .ok (.getfield 26, 3) := by decide +kernel
theorem dX10_settleFor_93 : decode cX10_settleFor 93 = .ok (.aload_n 0, 1) := by decide +kernel
theorem dX10_settleFor_94 : decode cX10_settleFor 94 = .ok (.getfield 10, 3) := by decide +kernel
theorem dX10_settleFor_97 : decode cX10_settleFor 97 = .ok (.getfield 64, 3) := by decide +kernel
theorem dX10_settleFor_100 : decode cX10_settleFor 100 = .ok (.iload 5, 2) := by decide +kernel
theorem dX10_settleFor_102 : decode cX10_settleFor 102 = .ok (.iload 6, 2) := by decide +kernel
theorem dX10_settleFor_104 : decode cX10_settleFor 104 = .ok (.invokevirtual 257, 3) := by decide +kernel
theorem dX10_settleFor_107 : decode cX10_settleFor 107 = .ok (.aload_n 0, 1) := by decide +kernel
theorem dX10_settleFor_108 : decode cX10_settleFor 108 = .ok (.getfield 26, 3) := by decide +kernel
theorem dX10_settleFor_111 : decode cX10_settleFor 111 = .ok (.invokevirtual 244, 3) := by decide +kernel
theorem dX10_settleFor_114 : decode cX10_settleFor 114 = .ok (.invokestatic 261, 3) := by decide +kernel
theorem dX10_settleFor_117 : decode cX10_settleFor 117 = .ok (.iload_n 2, 1) := by decide +kernel
theorem dX10_settleFor_118 : decode cX10_settleFor 118 = .ok (.if_icmp .gt 6, 3) := by decide +kernel
theorem dX10_settleFor_121 : decode cX10_settleFor 121 = .ok (.iload 6, 2) := by decide +kernel
theorem dX10_settleFor_123 : decode cX10_settleFor 123 = .ok (.ireturn, 1) := by decide +kernel
theorem dX10_settleFor_124 : decode cX10_settleFor 124 = .ok (.iinc 6 1, 3) := by decide +kernel
theorem dX10_settleFor_127 : decode cX10_settleFor 127 = .ok (.goto (-55), 3) := by decide +kernel
theorem dX10_settleFor_130 : decode cX10_settleFor 130 = .ok (.ldc 222, 2) := by decide +kernel
theorem dX10_settleFor_132 : decode cX10_settleFor 132 = .ok (.ireturn, 1) := by decide +kernel
set_option maxRecDepth 20000 in
theorem ggX10_bestRule_X10_tryEntries : GoodIn wsX10_bestRule wsX10_tryEntries := goodIn_r _ [10, 11, 1, 12, 13, 14, 15, 16, 17, 18, 19, 20, 21, 22, 23, 24, 25, 26, 27, 28, 29, 30, 31, 32, 33, 34, 35, 36, 37, 38, 39, 40, 41, 42, 43, 44, 45, 46, 47, 48, 49, 50, 51, 52, 53, 54, 55, 56, 57, 58, 59, 60, 61, 62, 63, 64, 65, 66, 67, 68, 69, 70, 71, 72, 73, 74, 75, 76, 77, 78, 79, 80, 81, 82, 83, 84, 85, 86, 87, 9, 88, 89, 90, 91, 138, 139, 140, 141, 142, 143, 144, 145, 146, 147, 148, 149, 150, 155, 156, 157, 158, 159, 160, 161, 151, 152, 153, 154] (by decide +kernel) (by decide +kernel)
set_option maxRecDepth 20000 in
theorem gX10_bestRule_X10_tryEntries : GoodIn wsX10_bestRule (wsV RX10 234 RX10 yX10_tryEntries wsX10_tryEntries) := goodIn_app (goodIn_of _ (by decide +kernel)) ggX10_bestRule_X10_tryEntries
set_option maxRecDepth 20000 in
theorem ggX10_bestRule_X3_copyFrom : GoodIn wsX10_bestRule wsX3_copyFrom := goodIn_r _ [95, 56, 96, 72, 97, 98, 99, 100, 27, 101, 30, 102, 63, 16, 64, 103, 104, 105, 106, 151, 152, 153, 154, 160, 161] (by decide +kernel) (by decide +kernel)
set_option maxRecDepth 20000 in
theorem gX10_bestRule_X3_copyFrom : GoodIn wsX10_bestRule (wsV RX10 165 RX3 yX3_copyFrom wsX3_copyFrom) := goodIn_app (goodIn_of _ (by decide +kernel)) ggX10_bestRule_X3_copyFrom
set_option maxRecDepth 20000 in
theorem ggX10_bestRule_X6_time : GoodIn wsX10_bestRule wsX6_time := goodIn_r _ [22, 23, 24, 25, 26, 27, 28, 29, 30, 144, 145, 146, 147, 148, 149, 150, 160, 161] (by decide +kernel) (by decide +kernel)
set_option maxRecDepth 20000 in
theorem gX10_bestRule_X6_time : GoodIn wsX10_bestRule (wsV RX10 121 RX6 yX6_time wsX6_time) := goodIn_app (goodIn_of _ (by decide +kernel)) ggX10_bestRule_X6_time
set_option maxRecDepth 20000 in
theorem ggX10_bestRule_X5_arrange : GoodIn wsX10_bestRule wsX5_arrange := goodIn_r _ [111, 112, 113, 114, 115, 116, 117, 110, 118, 119, 25, 26, 27, 28, 29, 30, 120, 52, 53, 54, 55, 56, 57, 121, 59, 60, 61, 62, 63, 16, 64, 65, 66, 67, 68, 69, 70, 71, 72, 73, 74, 75, 76, 77, 78, 79, 122, 123, 124, 125, 126, 127, 128, 129, 130, 131, 132, 133, 134, 135, 136, 137, 99, 100, 101, 102, 103, 104, 105, 106, 151, 152, 153, 154, 162, 163, 164, 160, 161] (by decide +kernel) (by decide +kernel)
set_option maxRecDepth 20000 in
theorem gX10_bestRule_X5_arrange : GoodIn wsX10_bestRule (wsV RX10 125 RX5 yX5_arrange wsX5_arrange) := goodIn_app (goodIn_of _ (by decide +kernel)) ggX10_bestRule_X5_arrange
theorem dX10_bestRule_0 : decode cX10_bestRule 0 = .ok (.iconst (-1), 1) := by decide +kernel
theorem dX10_bestRule_1 : decode cX10_bestRule 1 = .ok (.istore_n 1, 1) := by decide +kernel
theorem dX10_bestRule_2 : decode cX10_bestRule 2 = .ok (.aload_n 0, 1) := by decide +kernel
theorem dX10_bestRule_3 : decode cX10_bestRule 3 = .ok (.aload_n 0, 1) := by decide +kernel
theorem dX10_bestRule_4 : decode cX10_bestRule 4 = .ok (.getfield 10, 3) := by decide +kernel
theorem dX10_bestRule_7 : decode cX10_bestRule 7 = .ok (.getfield 64, 3) := by decide +kernel
theorem dX10_bestRule_10 : decode cX10_bestRule 10 = .ok (.aload_n 0, 1) := by decide +kernel
theorem dX10_bestRule_11 : decode cX10_bestRule 11 = .ok (.getfield 10, 3) := by decide +kernel
theorem dX10_bestRule_14 : decode cX10_bestRule 14 = .ok (.getfield 64, 3) := by decide +kernel
theorem dX10_bestRule_17 : decode cX10_bestRule 17 = .ok (.getfield 100, 3) := by decide +kernel
theorem dX10_bestRule_20 : decode cX10_bestRule 20 = .ok (.invokevirtual 234, 3) := by decide +kernel
theorem dX10_bestRule_23 : decode cX10_bestRule 23 = .ok (.istore_n 2, 1) := by decide +kernel
theorem dX10_bestRule_24 : decode cX10_bestRule 24 = .ok (.iconst 0, 1) := by decide +kernel
theorem dX10_bestRule_25 : decode cX10_bestRule 25 = .ok (.istore_n 3, 1) := by decide +kernel
theorem dX10_bestRule_26 : decode cX10_bestRule 26 = .ok (.iload_n 3, 1) := by decide +kernel
theorem dX10_bestRule_27 : decode cX10_bestRule 27 = .ok (.iconst 4, 1) := by decide +kernel
theorem dX10_bestRule_28 : decode cX10_bestRule 28 = .ok (.if_icmp .ge 71, 3) := by decide +kernel
theorem dX10_bestRule_31 : decode cX10_bestRule 31 = .ok (.aload_n 0, 1) := by decide +kernel
theorem dX10_bestRule_32 : decode cX10_bestRule 32 = .ok (.getfield 40, 3) := by decide +kernel
theorem dX10_bestRule_35 : decode cX10_bestRule 35 = .ok (.aload_n 0, 1) := by decide +kernel
theorem dX10_bestRule_36 : decode cX10_bestRule 36 = .ok (.getfield 10, 3) := by decide +kernel
theorem dX10_bestRule_39 : decode cX10_bestRule 39 = .ok (.getfield 64, 3) := by decide +kernel
theorem dX10_bestRule_42 : decode cX10_bestRule 42 = .ok (.invokevirtual 165, 3) := by decide +kernel
theorem dX10_bestRule_45 : decode cX10_bestRule 45 = .ok (.aload_n 0, 1) := by decide +kernel
theorem dX10_bestRule_46 : decode cX10_bestRule 46 = .ok (.getfield 33, 3) := by decide +kernel
theorem dX10_bestRule_49 : decode cX10_bestRule 49 = .ok (.aload_n 0, 1) := by decide +kernel
theorem dX10_bestRule_50 : decode cX10_bestRule 50 = .ok (.getfield 40, 3) := by decide +kernel
theorem dX10_bestRule_53 : decode cX10_bestRule 53 = .ok (.iload_n 3, 1) := by decide +kernel
theorem dX10_bestRule_54 : decode cX10_bestRule 54 = .ok (.aload_n 0, 1) := by decide +kernel
theorem dX10_bestRule_55 : decode cX10_bestRule 55 = .ok (.getfield 10, 3) := by decide +kernel
theorem dX10_bestRule_58 : decode cX10_bestRule 58 = .ok (.invokevirtual 121, 3) := by decide +kernel
theorem dX10_bestRule_61 : decode cX10_bestRule 61 = .ok (.invokevirtual 125, 3) := by decide +kernel
theorem dX10_bestRule_64 : decode cX10_bestRule 64 = .ok (.pop, 1) := by decide +kernel
theorem dX10_bestRule_65 : decode cX10_bestRule 65 = .ok (.aload_n 0, 1) := by decide +kernel
theorem dX10_bestRule_66 : decode cX10_bestRule 66 = .ok (.aload_n 0, 1) := by decide +kernel
theorem dX10_bestRule_67 : decode cX10_bestRule 67 = .ok (.getfield 40, 3) := by decide +kernel
theorem dX10_bestRule_70 : decode cX10_bestRule 70 = .ok (.aload_n 0, 1) := by decide +kernel
theorem dX10_bestRule_71 : decode cX10_bestRule 71 = .ok (.getfield 40, 3) := by decide +kernel
theorem dX10_bestRule_74 : decode cX10_bestRule 74 = .ok (.getfield 100, 3) := by decide +kernel
theorem dX10_bestRule_77 : decode cX10_bestRule 77 = .ok (.invokevirtual 234, 3) := by decide +kernel
theorem dX10_bestRule_80 : decode cX10_bestRule 80 = .ok (.istore 4, 2) := by decide +kernel
theorem dX10_bestRule_82 : decode cX10_bestRule 82 = .ok (.iload 4, 2) := by decide +kernel
theorem dX10_bestRule_84 : decode cX10_bestRule 84 = .ok (.iload_n 2, 1) := by decide +kernel
theorem dX10_bestRule_85 : decode cX10_bestRule 85 = .ok (.if_icmp .ge 8, 3) := by decide +kernel
theorem dX10_bestRule_88 : decode cX10_bestRule 88 = .ok (.iload 4, 2) := by decide +kernel
theorem dX10_bestRule_90 : decode cX10_bestRule 90 = .ok (.istore_n 2, 1) := by decide +kernel
theorem dX10_bestRule_91 : decode cX10_bestRule 91 = .ok (.iload_n 3, 1) := by decide +kernel
theorem dX10_bestRule_92 : decode cX10_bestRule 92 = .ok (.istore_n 1, 1) := by decide +kernel
theorem dX10_bestRule_93 : decode cX10_bestRule 93 = .ok (.iinc 3 1, 3) := by decide +kernel
theorem dX10_bestRule_96 : decode cX10_bestRule 96 = .ok (.goto (-70), 3) := by decide +kernel
theorem dX10_bestRule_99 : decode cX10_bestRule 99 = .ok (.iload_n 1, 1) := by decide +kernel
theorem dX10_bestRule_100 : decode cX10_bestRule 100 = .ok (.ireturn, 1) := by decide +kernel
set_option maxRecDepth 20000 in
theorem ggX10_groundsNeeded_X6_time : GoodIn wsX10_groundsNeeded wsX6_time := goodIn_r _ [13, 14, 15, 16, 17, 18, 19, 20, 21, 92, 93, 94, 95, 96, 97, 98, 108, 109] (by decide +kernel) (by decide +kernel)
set_option maxRecDepth 20000 in
theorem gX10_groundsNeeded_X6_time : GoodIn wsX10_groundsNeeded (wsV RX10 121 RX6 yX6_time wsX6_time) := goodIn_app (goodIn_of _ (by decide +kernel)) ggX10_groundsNeeded_X6_time
set_option maxRecDepth 20000 in
theorem ggX10_groundsNeeded_X0_start : GoodIn wsX10_groundsNeeded wsX0_start := goodIn_r _ [26, 27, 28, 103, 104, 105, 106, 107] (by decide +kernel) (by decide +kernel)
set_option maxRecDepth 20000 in
theorem gX10_groundsNeeded_X0_start : GoodIn wsX10_groundsNeeded (wsV RX10 140 RX0 yX0_start wsX0_start) := goodIn_app (goodIn_of _ (by decide +kernel)) ggX10_groundsNeeded_X0_start
set_option maxRecDepth 20000 in
theorem ggX10_groundsNeeded_X0_carryOutEntry : GoodIn wsX10_groundsNeeded wsX0_carryOutEntry := goodIn_r _ [32, 33, 34, 16, 17, 18, 19, 20, 21, 35, 36, 37, 25, 38, 28, 39, 27, 40, 41, 42, 43, 44, 45, 46, 47, 48, 49, 50, 51, 52, 53, 54, 55, 56, 57, 58, 59, 60, 61, 62, 63, 64, 65, 66, 67, 68, 69, 70, 71, 72, 73, 74, 75, 76, 77, 78, 79, 80, 81, 82, 83, 84, 99, 100, 101, 102, 108, 109, 103, 104, 105, 106, 107] (by decide +kernel) (by decide +kernel)
set_option maxRecDepth 20000 in
theorem gX10_groundsNeeded_X0_carryOutEntry : GoodIn wsX10_groundsNeeded (wsV RX10 266 RX0 yX0_carryOutEntry wsX0_carryOutEntry) := goodIn_app (goodIn_of _ (by decide +kernel)) ggX10_groundsNeeded_X0_carryOutEntry
set_option maxRecDepth 20000 in
theorem ggX10_groundsNeeded_X0_carryOut : GoodIn wsX10_groundsNeeded wsX0_carryOut := goodIn_r _ [38, 28, 39, 27, 40, 41, 42, 43, 44, 45, 46, 47, 48, 16, 17, 18, 19, 20, 21, 49, 50, 51, 52, 53, 54, 55, 56, 57, 58, 59, 60, 61, 62, 63, 64, 65, 66, 67, 68, 69, 70, 71, 72, 73, 25, 74, 75, 76, 77, 78, 79, 80, 81, 82, 83, 84, 103, 104, 105, 106, 107, 99, 100, 101, 102, 108, 109] (by decide +kernel) (by decide +kernel)
set_option maxRecDepth 20000 in
theorem gX10_groundsNeeded_X0_carryOut : GoodIn wsX10_groundsNeeded (wsV RX10 257 RX0 yX0_carryOut wsX0_carryOut) := goodIn_app (goodIn_of _ (by decide +kernel)) ggX10_groundsNeeded_X0_carryOut
theorem dX10_groundsNeeded_0 : decode cX10_groundsNeeded 0 = .ok (.iconst 0, 1) := by decide +kernel
theorem dX10_groundsNeeded_1 : decode cX10_groundsNeeded 1 = .ok (.istore_n 1, 1) := by decide +kernel
theorem dX10_groundsNeeded_2 : decode cX10_groundsNeeded 2 = .ok (.aload_n 0, 1) := by decide +kernel
theorem dX10_groundsNeeded_3 : decode cX10_groundsNeeded 3 = .ok (.getfield 26, 3) := by decide +kernel
theorem dX10_groundsNeeded_6 : decode cX10_groundsNeeded 6 = .ok (.aload_n 0, 1) := by decide +kernel
theorem dX10_groundsNeeded_7 : decode cX10_groundsNeeded 7 = .ok (.getfield 10, 3) := by decide +kernel
theorem dX10_groundsNeeded_10 : decode cX10_groundsNeeded 10 = .ok (.getfield 136, 3) := by decide +kernel
theorem dX10_groundsNeeded_13 : decode cX10_groundsNeeded 13 = .ok (.aload_n 0, 1) := by decide +kernel
theorem dX10_groundsNeeded_14 : decode cX10_groundsNeeded 14 = .ok (.getfield 10, 3) := by decide +kernel
theorem dX10_groundsNeeded_17 : decode cX10_groundsNeeded 17 = .ok (.invokevirtual 121, 3) := by decide +kernel
theorem dX10_groundsNeeded_20 : decode cX10_groundsNeeded 20 = .ok (.invokevirtual 140, 3) := by decide +kernel
theorem dX10_groundsNeeded_23 : decode cX10_groundsNeeded 23 = .ok (.iconst 0, 1) := by decide +kernel
theorem dX10_groundsNeeded_24 : decode cX10_groundsNeeded 24 = .ok (.istore_n 2, 1) := by decide +kernel
theorem dX10_groundsNeeded_25 : decode cX10_groundsNeeded 25 = .ok (.iload_n 2, 1) := by decide +kernel
theorem dX10_groundsNeeded_26 : decode cX10_groundsNeeded 26 = .ok (.aload_n 0, 1) := by decide +kernel
theorem dX10_groundsNeeded_27 : decode cX10_groundsNeeded 27 = .ok (.getfield 10, 3) := by decide +kernel
theorem dX10_groundsNeeded_30 : decode cX10_groundsNeeded 30 = .ok (.getfield 64, 3) := by decide +kernel
theorem dX10_groundsNeeded_33 : decode cX10_groundsNeeded 33 = .ok (.getfield 100, 3) := by decide +kernel
theorem dX10_groundsNeeded_36 : decode cX10_groundsNeeded 36 = .ok (.if_icmp .ge 96, 3) := by decide +kernel
theorem dX10_groundsNeeded_39 : decode cX10_groundsNeeded 39 = .ok (.aload_n 0, 1) := by decide +kernel
theorem dX10_groundsNeeded_40 : decode cX10_groundsNeeded 40 = .ok (.getfield 26, 3) := by decide +kernel
theorem dX10_groundsNeeded_43 : decode cX10_groundsNeeded 43 = .ok (.getfield 247, 3) := by decide +kernel
theorem dX10_groundsNeeded_46 : decode cX10_groundsNeeded 46 = .ok (.fstore_n 3, 1) := by decide +kernel
theorem dX10_groundsNeeded_47 : decode cX10_groundsNeeded 47 = .ok (.aload_n 0, 1) := by decide +kernel
theorem dX10_groundsNeeded_48 : decode cX10_groundsNeeded 48 = .ok (.getfield 26, 3) := by decide +kernel
theorem dX10_groundsNeeded_51 : decode cX10_groundsNeeded 51 = .ok (.getfield 255, 3) := by decide +kernel
theorem dX10_groundsNeeded_54 : decode cX10_groundsNeeded 54 = .ok (.istore 4, 2) := by decide +kernel
theorem dX10_groundsNeeded_56 : decode cX10_groundsNeeded 56 = .ok (.aload_n 0, 1) := by decide +kernel
theorem dX10_groundsNeeded_57 : decode cX10_groundsNeeded 57 = .ok (.getfield 26, 3) := by decide +kernel
theorem dX10_groundsNeeded_60 : decode cX10_groundsNeeded 60 = .ok (.aload_n 0, 1) := by decide +kernel
theorem dX10_groundsNeeded_61 : decode cX10_groundsNeeded 61 = .ok (.getfield 10, 3) := by decide +kernel
theorem dX10_groundsNeeded_64 : decode cX10_groundsNeeded 64 = .ok (.getfield 64, 3) := by decide +kernel
theorem dX10_groundsNeeded_67 : decode cX10_groundsNeeded 67 = .ok (.iload_n 2, 1) := by decide +kernel
theorem dX10_groundsNeeded_68 : decode cX10_groundsNeeded 68 = .ok (.invokevirtual 266, 3) := by decide +kernel
theorem dX10_groundsNeeded_71 : decode cX10_groundsNeeded 71 = .ok (.aload_n 0, 1) := by decide +kernel
theorem dX10_groundsNeeded_72 : decode cX10_groundsNeeded 72 = .ok (.getfield 26, 3) := by decide +kernel
theorem dX10_groundsNeeded_75 : decode cX10_groundsNeeded 75 = .ok (.getfield 241, 3) := by decide +kernel
theorem dX10_groundsNeeded_78 : decode cX10_groundsNeeded 78 = .ok (.ifCond .eq 48, 3) := by decide +kernel
theorem dX10_groundsNeeded_81 : decode cX10_groundsNeeded 81 = .ok (.iinc 1 1, 3) := by decide +kernel
theorem dX10_groundsNeeded_84 : decode cX10_groundsNeeded 84 = .ok (.aload_n 0, 1) := by decide +kernel
theorem dX10_groundsNeeded_85 : decode cX10_groundsNeeded 85 = .ok (.getfield 26, 3) := by decide +kernel
theorem dX10_groundsNeeded_88 : decode cX10_groundsNeeded 88 = .ok (.fload_n 3, 1) := by decide +kernel
theorem dX10_groundsNeeded_89 : decode cX10_groundsNeeded 89 = .ok (.iload 4, 2) := by decide +kernel
theorem dX10_groundsNeeded_91 : decode cX10_groundsNeeded 91 = .ok (.invokevirtual 140, 3) := by decide +kernel
theorem dX10_groundsNeeded_94 : decode cX10_groundsNeeded 94 = .ok (.aload_n 0, 1) := by decide +kernel
theorem dX10_groundsNeeded_95 : decode cX10_groundsNeeded 95 = .ok (.getfield 26, 3) := by decide +kernel
theorem dX10_groundsNeeded_98 : decode cX10_groundsNeeded 98 = .ok (.aload_n 0, 1) := by decide +kernel
theorem dX10_groundsNeeded_99 : decode cX10_groundsNeeded 99 = .ok (.getfield 10, 3) := by decide +kernel
theorem dX10_groundsNeeded_102 : decode cX10_groundsNeeded 102 = .ok (.getfield 64, 3) := by decide +kernel
theorem dX10_groundsNeeded_105 : decode cX10_groundsNeeded 105 = .ok (.bipush 8, 2) := by decide +kernel
theorem dX10_groundsNeeded_107 : decode cX10_groundsNeeded 107 = .ok (.iconst 0, 1) := by decide +kernel
theorem dX10_groundsNeeded_108 : decode cX10_groundsNeeded 108 = .ok (.invokevirtual 257, 3) := by decide +kernel
theorem dX10_groundsNeeded_111 : decode cX10_groundsNeeded 111 = .ok (.aload_n 0, 1) := by decide +kernel
theorem dX10_groundsNeeded_112 : decode cX10_groundsNeeded 112 = .ok (.getfield 26, 3) := by decide +kernel
theorem dX10_groundsNeeded_115 : decode cX10_groundsNeeded 115 = .ok (.aload_n 0, 1) := by decide +kernel
theorem dX10_groundsNeeded_116 : decode cX10_groundsNeeded 116 = .ok (.getfield 10, 3) := by decide +kernel
theorem dX10_groundsNeeded_119 : decode cX10_groundsNeeded 119 = .ok (.getfield 64, 3) := by decide +kernel
theorem dX10_groundsNeeded_122 : decode cX10_groundsNeeded 122 = .ok (.iload_n 2, 1) := by decide +kernel
theorem dX10_groundsNeeded_123 : decode cX10_groundsNeeded 123 = .ok (.invokevirtual 266, 3) := by decide +kernel
theorem dX10_groundsNeeded_126 : decode cX10_groundsNeeded 126 = .ok (.iinc 2 1, 3) := by decide +kernel
theorem dX10_groundsNeeded_129 : decode cX10_groundsNeeded 129 = .ok (.goto (-104), 3) := by decide +kernel
theorem dX10_groundsNeeded_132 : decode cX10_groundsNeeded 132 = .ok (.iload_n 1, 1) := by decide +kernel
theorem dX10_groundsNeeded_133 : decode cX10_groundsNeeded 133 = .ok (.ireturn, 1) := by decide +kernel
set_option maxRecDepth 20000 in
theorem ggX10_scanOnce_X0_carryOutEntry : GoodIn wsX10_scanOnce wsX0_carryOutEntry := goodIn_r _ [10, 11, 12, 13, 14, 15, 16, 17, 18, 19, 20, 21, 9, 22, 23, 24, 25, 26, 27, 28, 29, 30, 31, 32, 33, 34, 35, 36, 37, 38, 39, 40, 41, 42, 43, 44, 45, 46, 47, 48, 49, 50, 51, 52, 53, 54, 55, 56, 57, 58, 59, 60, 61, 62, 63, 64, 65, 66, 67, 68, 69, 70, 134, 135, 136, 137, 138, 139, 140, 141, 142, 143, 144] (by decide +kernel) (by decide +kernel)
set_option maxRecDepth 20000 in
theorem gX10_scanOnce_X0_carryOutEntry : GoodIn wsX10_scanOnce (wsV RX10 266 RX0 yX0_carryOutEntry wsX0_carryOutEntry) := goodIn_app (goodIn_of _ (by decide +kernel)) ggX10_scanOnce_X0_carryOutEntry
set_option maxRecDepth 20000 in
theorem ggX10_scanOnce_X7_at : GoodIn wsX10_scanOnce wsX7_at := goodIn_r _ [16, 17, 18, 138, 139] (by decide +kernel) (by decide +kernel)
set_option maxRecDepth 20000 in
theorem gX10_scanOnce_X7_at : GoodIn wsX10_scanOnce (wsV RX10 71 RX7 yX7_at wsX7_at) := goodIn_app (goodIn_of _ (by decide +kernel)) ggX10_scanOnce_X7_at
set_option maxRecDepth 20000 in
theorem ggX10_scanOnce_X3_slotsOfEntry : GoodIn wsX10_scanOnce wsX3_slotsOfEntry := goodIn_r _ [75, 76, 34, 13, 14, 15, 16, 17, 18, 134, 135, 136, 137, 138, 139] (by decide +kernel) (by decide +kernel)
set_option maxRecDepth 20000 in
theorem gX10_scanOnce_X3_slotsOfEntry : GoodIn wsX10_scanOnce (wsV RX10 270 RX3 yX3_slotsOfEntry wsX3_slotsOfEntry) := goodIn_app (goodIn_of _ (by decide +kernel)) ggX10_scanOnce_X3_slotsOfEntry
set_option maxRecDepth 20000 in
theorem ggX10_scanOnce_X6_book : GoodIn wsX10_scanOnce wsX6_book := goodIn_r _ [81, 82, 83, 84, 85, 86, 87, 41, 88, 89, 90, 91, 92, 93, 94, 95, 96, 97, 98, 99, 100, 101, 102, 40, 42, 103, 104, 105, 15, 106, 17, 18, 107, 108, 109, 9, 110, 26, 24, 111, 112, 113, 80, 114, 115, 116, 117, 118, 119, 120, 13, 14, 16, 127, 128, 129, 130, 131, 132, 133, 140, 141, 142, 143, 144, 145, 146, 147, 138, 139] (by decide +kernel) (by decide +kernel)
set_option maxRecDepth 20000 in
theorem gX10_scanOnce_X6_book : GoodIn wsX10_scanOnce (wsV RX10 273 RX6 yX6_book wsX6_book) := goodIn_app (goodIn_of _ (by decide +kernel)) ggX10_scanOnce_X6_book
theorem dX10_scanOnce_0 : decode cX10_scanOnce 0 = .ok (.iconst 0, 1) := by decide +kernel
theorem dX10_scanOnce_1 : decode cX10_scanOnce 1 = .ok (.istore_n 1, 1) := by decide +kernel
theorem dX10_scanOnce_2 : decode cX10_scanOnce 2 = .ok (.iload_n 1, 1) := by decide +kernel
theorem dX10_scanOnce_3 : decode cX10_scanOnce 3 = .ok (.aload_n 0, 1) := by decide +kernel
theorem dX10_scanOnce_4 : decode cX10_scanOnce 4 = .ok (.getfield 10, 3) := by decide +kernel
theorem dX10_scanOnce_7 : decode cX10_scanOnce 7 = .ok (.getfield 64, 3) := by decide +kernel
theorem dX10_scanOnce_10 : decode cX10_scanOnce 10 = .ok (.getfield 100, 3) := by decide +kernel
theorem dX10_scanOnce_13 : decode cX10_scanOnce 13 = .ok (.if_icmp .ge 61, 3) := by decide +kernel
theorem dX10_scanOnce_16 : decode cX10_scanOnce 16 = .ok (.aload_n 0, 1) := by decide +kernel
theorem dX10_scanOnce_17 : decode cX10_scanOnce 17 = .ok (.getfield 26, 3) := by decide +kernel
theorem dX10_scanOnce_20 : decode cX10_scanOnce 20 = .ok (.aload_n 0, 1) := by decide +kernel
theorem dX10_scanOnce_21 : decode cX10_scanOnce 21 = .ok (.getfield 10, 3) := by decide +kernel
theorem dX10_scanOnce_24 : decode cX10_scanOnce 24 = .ok (.getfield 64, 3) := by decide +kernel
theorem dX10_scanOnce_27 : decode cX10_scanOnce 27 = .ok (.iload_n 1, 1) := by decide +kernel
theorem dX10_scanOnce_28 : decode cX10_scanOnce 28 = .ok (.invokevirtual 266, 3) := by decide +kernel
theorem dX10_scanOnce_31 : decode cX10_scanOnce 31 = .ok (.aload_n 0, 1) := by decide +kernel
theorem dX10_scanOnce_32 : decode cX10_scanOnce 32 = .ok (.getfield 10, 3) := by decide +kernel
theorem dX10_scanOnce_35 : decode cX10_scanOnce 35 = .ok (.aload_n 0, 1) := by decide +kernel
theorem dX10_scanOnce_36 : decode cX10_scanOnce 36 = .ok (.getfield 10, 3) := by decide +kernel
theorem dX10_scanOnce_39 : decode cX10_scanOnce 39 = .ok (.getfield 64, 3) := by decide +kernel
theorem dX10_scanOnce_42 : decode cX10_scanOnce 42 = .ok (.getfield 118, 3) := by decide +kernel
theorem dX10_scanOnce_45 : decode cX10_scanOnce 45 = .ok (.iload_n 1, 1) := by decide +kernel
theorem dX10_scanOnce_46 : decode cX10_scanOnce 46 = .ok (.iconst 0, 1) := by decide +kernel
theorem dX10_scanOnce_47 : decode cX10_scanOnce 47 = .ok (.invokevirtual 71, 3) := by decide +kernel
theorem dX10_scanOnce_50 : decode cX10_scanOnce 50 = .ok (.aload_n 0, 1) := by decide +kernel
theorem dX10_scanOnce_51 : decode cX10_scanOnce 51 = .ok (.getfield 10, 3) := by decide +kernel
theorem dX10_scanOnce_54 : decode cX10_scanOnce 54 = .ok (.getfield 64, 3) := by decide +kernel
theorem dX10_scanOnce_57 : decode cX10_scanOnce 57 = .ok (.iload_n 1, 1) := by decide +kernel
theorem dX10_scanOnce_58 : decode cX10_scanOnce 58 = .ok (.invokevirtual 270, 3) := by decide +kernel
theorem dX10_scanOnce_61 : decode cX10_scanOnce 61 = .ok (.aload_n 0, 1) := by decide +kernel
theorem dX10_scanOnce_62 : decode cX10_scanOnce 62 = .ok (.getfield 26, 3) := by decide +kernel
theorem dX10_scanOnce_65 : decode cX10_scanOnce 65 = .ok (.invokevirtual 273, 3) := by decide +kernel
theorem dX10_scanOnce_68 : decode cX10_scanOnce 68 = .ok (.iinc 1 1, 3) := by decide +kernel
theorem dX10_scanOnce_71 : decode cX10_scanOnce 71 = .ok (.goto (-69), 3) := by decide +kernel
theorem dX10_scanOnce_74 : decode cX10_scanOnce 74 = .ok (.return_, 1) := by decide +kernel
set_option maxRecDepth 20000 in
theorem ggX10_tryEntries_X6_time : GoodIn wsX10_tryEntries wsX6_time := goodIn_r _ [13, 14, 15, 16, 17, 18, 19, 20, 21, 90, 91, 92, 93, 94, 95, 96, 102, 103] (by decide +kernel) (by decide +kernel)
set_option maxRecDepth 20000 in
theorem gX10_tryEntries_X6_time : GoodIn wsX10_tryEntries (wsV RX10 121 RX6 yX6_time wsX6_time) := goodIn_app (goodIn_of _ (by decide +kernel)) ggX10_tryEntries_X6_time
set_option maxRecDepth 20000 in
theorem ggX10_tryEntries_X0_start : GoodIn wsX10_tryEntries wsX0_start := goodIn_r _ [26, 27, 28, 97, 98, 99, 100, 101] (by decide +kernel) (by decide +kernel)
set_option maxRecDepth 20000 in
theorem gX10_tryEntries_X0_start : GoodIn wsX10_tryEntries (wsV RX10 140 RX0 yX0_start wsX0_start) := goodIn_app (goodIn_of _ (by decide +kernel)) ggX10_tryEntries_X0_start
set_option maxRecDepth 20000 in
theorem ggX10_tryEntries_X0_carryOutEntry : GoodIn wsX10_tryEntries wsX0_carryOutEntry := goodIn_r _ [32, 33, 34, 16, 17, 18, 19, 20, 21, 35, 36, 37, 25, 38, 28, 39, 27, 40, 41, 42, 43, 44, 45, 46, 47, 48, 49, 50, 51, 52, 53, 54, 7, 55, 56, 57, 58, 59, 60, 61, 62, 63, 64, 65, 66, 67, 68, 69, 70, 71, 72, 73, 74, 75, 76, 77, 78, 79, 80, 81, 82, 83, 104, 105, 106, 107, 102, 103, 97, 98, 99, 100, 101] (by decide +kernel) (by decide +kernel)
set_option maxRecDepth 20000 in
theorem gX10_tryEntries_X0_carryOutEntry : GoodIn wsX10_tryEntries (wsV RX10 266 RX0 yX0_carryOutEntry wsX0_carryOutEntry) := goodIn_app (goodIn_of _ (by decide +kernel)) ggX10_tryEntries_X0_carryOutEntry
theorem dX10_tryEntries_0 : decode cX10_tryEntries 0 = .ok (.iconst 0, 1) := by decide +kernel
theorem dX10_tryEntries_1 : decode cX10_tryEntries 1 = .ok (.istore_n 3, 1) := by decide +kernel
theorem dX10_tryEntries_2 : decode cX10_tryEntries 2 = .ok (.aload_n 0, 1) := by decide +kernel
theorem dX10_tryEntries_3 : decode cX10_tryEntries 3 = .ok (.getfield 26, 3) := by decide +kernel
theorem dX10_tryEntries_6 : decode cX10_tryEntries 6 = .ok (.aload_n 0, 1) := by decide +kernel
theorem dX10_tryEntries_7 : decode cX10_tryEntries 7 = .ok (.getfield 10, 3) := by decide +kernel
theorem dX10_tryEntries_10 : decode cX10_tryEntries 10 = .ok (.getfield 136, 3) := by decide +kernel
theorem dX10_tryEntries_13 : decode cX10_tryEntries 13 = .ok (.aload_n 0, 1) := by decide +kernel
theorem dX10_tryEntries_14 : decode cX10_tryEntries 14 = .ok (.getfield 10, 3) := by decide +kernel
theorem dX10_tryEntries_17 : decode cX10_tryEntries 17 = .ok (.invokevirtual 121, 3) := by decide +kernel
theorem dX10_tryEntries_20 : decode cX10_tryEntries 20 = .ok (.invokevirtual 140, 3) := by decide +kernel
theorem dX10_tryEntries_23 : decode cX10_tryEntries 23 = .ok (.iconst 0, 1) := by decide +kernel
theorem dX10_tryEntries_24 : decode cX10_tryEntries 24 = .ok (.istore 4, 2) := by decide +kernel
theorem dX10_tryEntries_26 : decode cX10_tryEntries 26 = .ok (.iload 4, 2) := by decide +kernel
theorem dX10_tryEntries_28 : decode cX10_tryEntries 28 = .ok (.iload_n 2, 1) := by decide +kernel
theorem dX10_tryEntries_29 : decode cX10_tryEntries 29 = .ok (.if_icmp .ge 32, 3) := by decide +kernel
theorem dX10_tryEntries_32 : decode cX10_tryEntries 32 = .ok (.aload_n 0, 1) := by decide +kernel
theorem dX10_tryEntries_33 : decode cX10_tryEntries 33 = .ok (.getfield 26, 3) := by decide +kernel
theorem dX10_tryEntries_36 : decode cX10_tryEntries 36 = .ok (.aload_n 1, 1) := by decide +kernel
theorem dX10_tryEntries_37 : decode cX10_tryEntries 37 = .ok (.iload 4, 2) := by decide +kernel
theorem dX10_tryEntries_39 : decode cX10_tryEntries 39 = .ok (.invokevirtual 266, 3) := by decide +kernel
theorem dX10_tryEntries_42 : decode cX10_tryEntries 42 = .ok (.iload_n 3, 1) := by decide +kernel
theorem dX10_tryEntries_43 : decode cX10_tryEntries 43 = .ok (.aload_n 0, 1) := by decide +kernel
theorem dX10_tryEntries_44 : decode cX10_tryEntries 44 = .ok (.getfield 26, 3) := by decide +kernel
theorem dX10_tryEntries_47 : decode cX10_tryEntries 47 = .ok (.getfield 241, 3) := by decide +kernel
theorem dX10_tryEntries_50 : decode cX10_tryEntries 50 = .ok (.invokestatic 261, 3) := by decide +kernel
theorem dX10_tryEntries_53 : decode cX10_tryEntries 53 = .ok (.iadd, 1) := by decide +kernel
theorem dX10_tryEntries_54 : decode cX10_tryEntries 54 = .ok (.istore_n 3, 1) := by decide +kernel
theorem dX10_tryEntries_55 : decode cX10_tryEntries 55 = .ok (.iinc 4 1, 3) := by decide +kernel
theorem dX10_tryEntries_58 : decode cX10_tryEntries 58 = .ok (.goto (-32), 3) := by decide +kernel
theorem dX10_tryEntries_61 : decode cX10_tryEntries 61 = .ok (.iload_n 3, 1) := by decide +kernel
theorem dX10_tryEntries_62 : decode cX10_tryEntries 62 = .ok (.ireturn, 1) := by decide +kernel
set_option maxRecDepth 20000 in
theorem ggX10_isEntry_X10_isWithin : GoodIn wsX10_isEntry wsX10_isWithin := goodIn_r _ [7] (by decide +kernel) (by decide +kernel)
set_option maxRecDepth 20000 in
theorem gX10_isEntry_X10_isWithin : GoodIn wsX10_isEntry (va_wsS RX10 81 yX10_isWithin wsX10_isWithin) := goodIn_app (goodIn_of _ (by decide +kernel)) ggX10_isEntry_X10_isWithin
theorem dX10_isEntry_0 : decode cX10_isEntry 0 = .ok (.iload_n 1, 1) := by decide +kernel
theorem dX10_isEntry_1 : decode cX10_isEntry 1 = .ok (.iconst 0, 1) := by decide +kernel
theorem dX10_isEntry_2 : decode cX10_isEntry 2 = .ok (.aload_n 0, 1) := by decide +kernel
theorem dX10_isEntry_3 : decode cX10_isEntry 3 = .ok (.getfield 10, 3) := by decide +kernel
theorem dX10_isEntry_6 : decode cX10_isEntry 6 = .ok (.getfield 64, 3) := by decide +kernel
theorem dX10_isEntry_9 : decode cX10_isEntry 9 = .ok (.getfield 100, 3) := by decide +kernel
theorem dX10_isEntry_12 : decode cX10_isEntry 12 = .ok (.iconst 1, 1) := by decide +kernel
theorem dX10_isEntry_13 : decode cX10_isEntry 13 = .ok (.isub, 1) := by decide +kernel
theorem dX10_isEntry_14 : decode cX10_isEntry 14 = .ok (.invokestatic 81, 3) := by decide +kernel
theorem dX10_isEntry_17 : decode cX10_isEntry 17 = .ok (.ireturn, 1) := by decide +kernel
theorem dX10_isWithin_0 : decode cX10_isWithin 0 = .ok (.iload_n 0, 1) := by decide +kernel
theorem dX10_isWithin_1 : decode cX10_isWithin 1 = .ok (.iload_n 1, 1) := by decide +kernel
theorem dX10_isWithin_2 : decode cX10_isWithin 2 = .ok (.if_icmp .lt 12, 3) := by decide +kernel
theorem dX10_isWithin_5 : decode cX10_isWithin 5 = .ok (.iload_n 0, 1) := by decide +kernel
theorem dX10_isWithin_6 : decode cX10_isWithin 6 = .ok (.iload_n 2, 1) := by decide +kernel
theorem dX10_isWithin_7 : decode cX10_isWithin 7 = .ok (.if_icmp .gt 7, 3) := by decide +kernel
theorem dX10_isWithin_10 : decode cX10_isWithin 10 = .ok (.iconst 1, 1) := by decide +kernel
theorem dX10_isWithin_11 : decode cX10_isWithin 11 = .ok (.goto 4, 3) := by decide +kernel
theorem dX10_isWithin_14 : decode cX10_isWithin 14 = .ok (.iconst 0, 1) := by decide +kernel
theorem dX10_isWithin_15 : decode cX10_isWithin 15 = .ok (.ireturn, 1) := by decide +kernel
set_option maxRecDepth 20000 in
theorem ggX10_isChannel_X10_isWithin : GoodIn wsX10_isChannel wsX10_isWithin := goodIn_r _ [4] (by decide +kernel) (by decide +kernel)
set_option maxRecDepth 20000 in
theorem gX10_isChannel_X10_isWithin : GoodIn wsX10_isChannel (va_wsS RX10 81 yX10_isWithin wsX10_isWithin) := goodIn_app (goodIn_of _ (by decide +kernel)) ggX10_isChannel_X10_isWithin
theorem dX10_isChannel_0 : decode cX10_isChannel 0 = .ok (.iload_n 0, 1) := by decide +kernel
theorem dX10_isChannel_1 : decode cX10_isChannel 1 = .ok (.iconst 0, 1) := by decide +kernel
theorem dX10_isChannel_2 : decode cX10_isChannel 2 = .ok (.bipush 7, 2) := by decide +kernel
theorem dX10_isChannel_4 : decode cX10_isChannel 4 = .ok (.invokestatic 81, 3) := by decide +kernel
theorem dX10_isChannel_7 : decode cX10_isChannel 7 = .ok (.ireturn, 1) := by decide +kernel
set_option maxRecDepth 20000 in
theorem ggX10_isSettle_X10_isWithin : GoodIn wsX10_isSettle wsX10_isWithin := goodIn_r _ [4] (by decide +kernel) (by decide +kernel)
set_option maxRecDepth 20000 in
theorem gX10_isSettle_X10_isWithin : GoodIn wsX10_isSettle (va_wsS RX10 81 yX10_isWithin wsX10_isWithin) := goodIn_app (goodIn_of _ (by decide +kernel)) ggX10_isSettle_X10_isWithin
theorem dX10_isSettle_0 : decode cX10_isSettle 0 = .ok (.iload_n 0, 1) := by decide +kernel
theorem dX10_isSettle_1 : decode cX10_isSettle 1 = .ok (.iconst 0, 1) := by decide +kernel
theorem dX10_isSettle_2 : decode cX10_isSettle 2 = .ok (.bipush 7, 2) := by decide +kernel
theorem dX10_isSettle_4 : decode cX10_isSettle 4 = .ok (.invokestatic 81, 3) := by decide +kernel
theorem dX10_isSettle_7 : decode cX10_isSettle 7 = .ok (.ireturn, 1) := by decide +kernel
set_option maxRecDepth 20000 in
theorem ggX10_isSnapshotPlace_X10_isWithin : GoodIn wsX10_isSnapshotPlace wsX10_isWithin := goodIn_r _ [4] (by decide +kernel) (by decide +kernel)
set_option maxRecDepth 20000 in
theorem gX10_isSnapshotPlace_X10_isWithin : GoodIn wsX10_isSnapshotPlace (va_wsS RX10 81 yX10_isWithin wsX10_isWithin) := goodIn_app (goodIn_of _ (by decide +kernel)) ggX10_isSnapshotPlace_X10_isWithin
theorem dX10_isSnapshotPlace_0 : decode cX10_isSnapshotPlace 0 = .ok (.iload_n 0, 1) := by decide +kernel
theorem dX10_isSnapshotPlace_1 : decode cX10_isSnapshotPlace 1 = .ok (.iconst 0, 1) := by decide +kernel
theorem dX10_isSnapshotPlace_2 : decode cX10_isSnapshotPlace 2 = .ok (.iconst 1, 1) := by decide +kernel
theorem dX10_isSnapshotPlace_3 : decode cX10_isSnapshotPlace 3 = .ok (.invokestatic 81, 3) := by decide +kernel
theorem dX10_isSnapshotPlace_6 : decode cX10_isSnapshotPlace 6 = .ok (.ireturn, 1) := by decide +kernel
set_option maxRecDepth 20000 in
theorem ggX10_isSource_X10_isWithin : GoodIn wsX10_isSource wsX10_isWithin := goodIn_r _ [4] (by decide +kernel) (by decide +kernel)
set_option maxRecDepth 20000 in
theorem gX10_isSource_X10_isWithin : GoodIn wsX10_isSource (va_wsS RX10 81 yX10_isWithin wsX10_isWithin) := goodIn_app (goodIn_of _ (by decide +kernel)) ggX10_isSource_X10_isWithin
theorem dX10_isSource_0 : decode cX10_isSource 0 = .ok (.iload_n 1, 1) := by decide +kernel
theorem dX10_isSource_1 : decode cX10_isSource 1 = .ok (.iconst 0, 1) := by decide +kernel
theorem dX10_isSource_2 : decode cX10_isSource 2 = .ok (.sipush 4095, 3) := by decide +kernel
theorem dX10_isSource_5 : decode cX10_isSource 5 = .ok (.invokestatic 81, 3) := by decide +kernel
theorem dX10_isSource_8 : decode cX10_isSource 8 = .ok (.ifCond .ne 5, 3) := by decide +kernel
theorem dX10_isSource_11 : decode cX10_isSource 11 = .ok (.iconst 0, 1) := by decide +kernel
theorem dX10_isSource_12 : decode cX10_isSource 12 = .ok (.ireturn, 1) := by decide +kernel
theorem dX10_isSource_13 : decode cX10_isSource 13 = .ok (.iload_n 0, 1) := by decide +kernel
theorem dX10_isSource_14 : decode cX10_isSource 14 = .ok (.tableswitch 89 0 2 #[26, 40, 61], 26) := by decide +kernel
theorem dX10_isSource_40 : decode cX10_isSource 40 = .ok (.iload_n 2, 1) := by decide +kernel
theorem dX10_isSource_41 : decode cX10_isSource 41 = .ok (.ifCond .ne 11, 3) := by decide +kernel
theorem dX10_isSource_44 : decode cX10_isSource 44 = .ok (.iload_n 3, 1) := by decide +kernel
theorem dX10_isSource_45 : decode cX10_isSource 45 = .ok (.ifCond .ne 7, 3) := by decide +kernel
theorem dX10_isSource_48 : decode cX10_isSource 48 = .ok (.iconst 1, 1) := by decide +kernel
theorem dX10_isSource_49 : decode cX10_isSource 49 = .ok (.goto 4, 3) := by decide +kernel
theorem dX10_isSource_52 : decode cX10_isSource 52 = .ok (.iconst 0, 1) := by decide +kernel
theorem dX10_isSource_53 : decode cX10_isSource 53 = .ok (.ireturn, 1) := by decide +kernel
theorem dX10_isSource_54 : decode cX10_isSource 54 = .ok (.iload_n 2, 1) := by decide +kernel
theorem dX10_isSource_55 : decode cX10_isSource 55 = .ok (.bipush (-64), 2) := by decide +kernel
theorem dX10_isSource_57 : decode cX10_isSource 57 = .ok (.bipush 64, 2) := by decide +kernel
theorem dX10_isSource_59 : decode cX10_isSource 59 = .ok (.invokestatic 81, 3) := by decide +kernel
theorem dX10_isSource_62 : decode cX10_isSource 62 = .ok (.ifCond .eq 11, 3) := by decide +kernel
theorem dX10_isSource_65 : decode cX10_isSource 65 = .ok (.iload_n 3, 1) := by decide +kernel
theorem dX10_isSource_66 : decode cX10_isSource 66 = .ok (.ifCond .ne 7, 3) := by decide +kernel
theorem dX10_isSource_69 : decode cX10_isSource 69 = .ok (.iconst 1, 1) := by decide +kernel
theorem dX10_isSource_70 : decode cX10_isSource 70 = .ok (.goto 4, 3) := by decide +kernel
theorem dX10_isSource_73 : decode cX10_isSource 73 = .ok (.iconst 0, 1) := by decide +kernel
theorem dX10_isSource_74 : decode cX10_isSource 74 = .ok (.ireturn, 1) := by decide +kernel
theorem dX10_isSource_75 : decode cX10_isSource 75 = .ok (.iload_n 2, 1) := by decide +kernel
theorem dX10_isSource_76 : decode cX10_isSource 76 = .ok (.iconst 0, 1) := by decide +kernel
theorem dX10_isSource_77 : decode cX10_isSource 77 = .ok (.sipush 4095, 3) := by decide +kernel
theorem dX10_isSource_80 : decode cX10_isSource 80 = .ok (.invokestatic 81, 3) := by decide +kernel
theorem dX10_isSource_83 : decode cX10_isSource 83 = .ok (.ifCond .eq 18, 3) := by decide +kernel
theorem dX10_isSource_86 : decode cX10_isSource 86 = .ok (.iload_n 3, 1) := by decide +kernel
theorem dX10_isSource_87 : decode cX10_isSource 87 = .ok (.iconst 2, 1) := by decide +kernel
theorem dX10_isSource_88 : decode cX10_isSource 88 = .ok (.sipush 200, 3) := by decide +kernel
theorem dX10_isSource_91 : decode cX10_isSource 91 = .ok (.invokestatic 81, 3) := by decide +kernel
theorem dX10_isSource_94 : decode cX10_isSource 94 = .ok (.ifCond .eq 7, 3) := by decide +kernel
theorem dX10_isSource_97 : decode cX10_isSource 97 = .ok (.iconst 1, 1) := by decide +kernel
theorem dX10_isSource_98 : decode cX10_isSource 98 = .ok (.goto 4, 3) := by decide +kernel
theorem dX10_isSource_101 : decode cX10_isSource 101 = .ok (.iconst 0, 1) := by decide +kernel
theorem dX10_isSource_102 : decode cX10_isSource 102 = .ok (.ireturn, 1) := by decide +kernel
theorem dX10_isSource_103 : decode cX10_isSource 103 = .ok (.iconst 0, 1) := by decide +kernel
theorem dX10_isSource_104 : decode cX10_isSource 104 = .ok (.ireturn, 1) := by decide +kernel
set_option maxRecDepth 20000 in
theorem ggX10_isSetting_X10_isWithin : GoodIn wsX10_isSetting wsX10_isWithin := goodIn_r _ [4] (by decide +kernel) (by decide +kernel)
set_option maxRecDepth 20000 in
theorem gX10_isSetting_X10_isWithin : GoodIn wsX10_isSetting (va_wsS RX10 81 yX10_isWithin wsX10_isWithin) := goodIn_app (goodIn_of _ (by decide +kernel)) ggX10_isSetting_X10_isWithin
theorem dX10_isSetting_0 : decode cX10_isSetting 0 = .ok (.iload_n 0, 1) := by decide +kernel
theorem dX10_isSetting_1 : decode cX10_isSetting 1 = .ok (.tableswitch 56 0 2 #[27, 36, 47], 27) := by decide +kernel
theorem dX10_isSetting_28 : decode cX10_isSetting 28 = .ok (.iload_n 1, 1) := by decide +kernel
theorem dX10_isSetting_29 : decode cX10_isSetting 29 = .ok (.iconst 0, 1) := by decide +kernel
theorem dX10_isSetting_30 : decode cX10_isSetting 30 = .ok (.sipush 4095, 3) := by decide +kernel
theorem dX10_isSetting_33 : decode cX10_isSetting 33 = .ok (.invokestatic 81, 3) := by decide +kernel
theorem dX10_isSetting_36 : decode cX10_isSetting 36 = .ok (.ireturn, 1) := by decide +kernel
theorem dX10_isSetting_37 : decode cX10_isSetting 37 = .ok (.iload_n 1, 1) := by decide +kernel
theorem dX10_isSetting_38 : decode cX10_isSetting 38 = .ok (.sipush 900, 3) := by decide +kernel
theorem dX10_isSetting_41 : decode cX10_isSetting 41 = .ok (.sipush 1100, 3) := by decide +kernel
theorem dX10_isSetting_44 : decode cX10_isSetting 44 = .ok (.invokestatic 81, 3) := by decide +kernel
theorem dX10_isSetting_47 : decode cX10_isSetting 47 = .ok (.ireturn, 1) := by decide +kernel
theorem dX10_isSetting_48 : decode cX10_isSetting 48 = .ok (.iload_n 1, 1) := by decide +kernel
theorem dX10_isSetting_49 : decode cX10_isSetting 49 = .ok (.bipush (-100), 2) := by decide +kernel
theorem dX10_isSetting_51 : decode cX10_isSetting 51 = .ok (.bipush 100, 2) := by decide +kernel
theorem dX10_isSetting_53 : decode cX10_isSetting 53 = .ok (.invokestatic 81, 3) := by decide +kernel
theorem dX10_isSetting_56 : decode cX10_isSetting 56 = .ok (.ireturn, 1) := by decide +kernel
theorem dX10_isSetting_57 : decode cX10_isSetting 57 = .ok (.iconst 0, 1) := by decide +kernel
theorem dX10_isSetting_58 : decode cX10_isSetting 58 = .ok (.ireturn, 1) := by decide +kernel
theorem dX10_readingWith_0 : decode cX10_readingWith 0 = .ok (.fload_n 0, 1) := by decide +kernel
theorem dX10_readingWith_1 : decode cX10_readingWith 1 = .ok (.iload_n 1, 1) := by decide +kernel
theorem dX10_readingWith_2 : decode cX10_readingWith 2 = .ok (.i2f, 1) := by decide +kernel
theorem dX10_readingWith_3 : decode cX10_readingWith 3 = .ok (.ldc_w 277, 3) := by decide +kernel
theorem dX10_readingWith_6 : decode cX10_readingWith 6 = .ok (.fdiv, 1) := by decide +kernel
theorem dX10_readingWith_7 : decode cX10_readingWith 7 = .ok (.fmul, 1) := by decide +kernel
theorem dX10_readingWith_8 : decode cX10_readingWith 8 = .ok (.iload_n 2, 1) := by decide +kernel
theorem dX10_readingWith_9 : decode cX10_readingWith 9 = .ok (.i2f, 1) := by decide +kernel
theorem dX10_readingWith_10 : decode cX10_readingWith 10 = .ok (.fadd, 1) := by decide +kernel
theorem dX10_readingWith_11 : decode cX10_readingWith 11 = .ok (.ldc_w 278, 3) := by decide +kernel
theorem dX10_readingWith_14 : decode cX10_readingWith 14 = .ok (.fadd, 1) := by decide +kernel
theorem dX10_readingWith_15 : decode cX10_readingWith 15 = .ok (.fstore_n 3, 1) := by decide +kernel
theorem dX10_readingWith_16 : decode cX10_readingWith 16 = .ok (.fload_n 3, 1) := by decide +kernel
theorem dX10_readingWith_17 : decode cX10_readingWith 17 = .ok (.fconst 0, 1) := by decide +kernel
theorem dX10_readingWith_18 : decode cX10_readingWith 18 = .ok (.fcmp .g, 1) := by decide +kernel
theorem dX10_readingWith_19 : decode cX10_readingWith 19 = .ok (.ifCond .ge 7, 3) := by decide +kernel
theorem dX10_readingWith_22 : decode cX10_readingWith 22 = .ok (.iconst 0, 1) := by decide +kernel
theorem dX10_readingWith_23 : decode cX10_readingWith 23 = .ok (.goto 11, 3) := by decide +kernel
theorem dX10_readingWith_26 : decode cX10_readingWith 26 = .ok (.fload_n 3, 1) := by decide +kernel
theorem dX10_readingWith_27 : decode cX10_readingWith 27 = .ok (.f2i, 1) := by decide +kernel
theorem dX10_readingWith_28 : decode cX10_readingWith 28 = .ok (.sipush 4095, 3) := by decide +kernel
theorem dX10_readingWith_31 : decode cX10_readingWith 31 = .ok (.invokestatic 279, 3) := by decide +kernel
theorem dX10_readingWith_34 : decode cX10_readingWith 34 = .ok (.ireturn, 1) := by decide +kernel
theorem dJ9_floorDiv_7cf53_0 : decode cJ9_floorDiv_7cf53 0 = .ok (.iload_n 0, 1) := by decide +kernel
theorem dJ9_floorDiv_7cf53_1 : decode cJ9_floorDiv_7cf53 1 = .ok (.iload_n 1, 1) := by decide +kernel
theorem dJ9_floorDiv_7cf53_2 : decode cJ9_floorDiv_7cf53 2 = .ok (.idiv, 1) := by decide +kernel
theorem dJ9_floorDiv_7cf53_3 : decode cJ9_floorDiv_7cf53 3 = .ok (.istore_n 2, 1) := by decide +kernel
theorem dJ9_floorDiv_7cf53_4 : decode cJ9_floorDiv_7cf53 4 = .ok (.iload_n 0, 1) := by decide +kernel
theorem dJ9_floorDiv_7cf53_5 : decode cJ9_floorDiv_7cf53 5 = .ok (.iload_n 1, 1) := by decide +kernel
theorem dJ9_floorDiv_7cf53_6 : decode cJ9_floorDiv_7cf53 6 = .ok (.ixor, 1) := by decide +kernel
theorem dJ9_floorDiv_7cf53_7 : decode cJ9_floorDiv_7cf53 7 = .ok (.ifCond .ge 14, 3) := by decide +kernel
theorem dJ9_floorDiv_7cf53_10 : decode cJ9_floorDiv_7cf53 10 = .ok (.iload_n 2, 1) := by decide +kernel
theorem dJ9_floorDiv_7cf53_11 : decode cJ9_floorDiv_7cf53 11 = .ok (.iload_n 1, 1) := by decide +kernel
theorem dJ9_floorDiv_7cf53_12 : decode cJ9_floorDiv_7cf53 12 = .ok (.imul, 1) := by decide +kernel
theorem dJ9_floorDiv_7cf53_13 : decode cJ9_floorDiv_7cf53 13 = .ok (.iload_n 0, 1) := by decide +kernel
theorem dJ9_floorDiv_7cf53_14 : decode cJ9_floorDiv_7cf53 14 = .ok (.if_icmp .eq 7, 3) := by decide +kernel
theorem dJ9_floorDiv_7cf53_17 : decode cJ9_floorDiv_7cf53 17 = .ok (.iload_n 2, 1) := by decide +kernel
theorem dJ9_floorDiv_7cf53_18 : decode cJ9_floorDiv_7cf53 18 = .ok (.iconst 1, 1) := by decide +kernel
theorem dJ9_floorDiv_7cf53_19 : decode cJ9_floorDiv_7cf53 19 = .ok (.isub, 1) := by decide +kernel
theorem dJ9_floorDiv_7cf53_20 : decode cJ9_floorDiv_7cf53 20 = .ok (.ireturn, 1) := by decide +kernel
theorem dJ9_floorDiv_7cf53_21 : decode cJ9_floorDiv_7cf53 21 = .ok (.iload_n 2, 1) := by decide +kernel
theorem dJ9_floorDiv_7cf53_22 : decode cJ9_floorDiv_7cf53 22 = .ok (.ireturn, 1) := by decide +kernel
theorem dJ9_floorMod_7cf53_0 : decode cJ9_floorMod_7cf53 0 = .ok (.iload_n 0, 1) := by decide +kernel
theorem dJ9_floorMod_7cf53_1 : decode cJ9_floorMod_7cf53 1 = .ok (.iload_n 1, 1) := by decide +kernel
theorem dJ9_floorMod_7cf53_2 : decode cJ9_floorMod_7cf53 2 = .ok (.irem, 1) := by decide +kernel
theorem dJ9_floorMod_7cf53_3 : decode cJ9_floorMod_7cf53 3 = .ok (.istore_n 2, 1) := by decide +kernel
theorem dJ9_floorMod_7cf53_4 : decode cJ9_floorMod_7cf53 4 = .ok (.iload_n 0, 1) := by decide +kernel
theorem dJ9_floorMod_7cf53_5 : decode cJ9_floorMod_7cf53 5 = .ok (.iload_n 1, 1) := by decide +kernel
theorem dJ9_floorMod_7cf53_6 : decode cJ9_floorMod_7cf53 6 = .ok (.ixor, 1) := by decide +kernel
theorem dJ9_floorMod_7cf53_7 : decode cJ9_floorMod_7cf53 7 = .ok (.ifCond .ge 11, 3) := by decide +kernel
theorem dJ9_floorMod_7cf53_10 : decode cJ9_floorMod_7cf53 10 = .ok (.iload_n 2, 1) := by decide +kernel
theorem dJ9_floorMod_7cf53_11 : decode cJ9_floorMod_7cf53 11 = .ok (.ifCond .eq 7, 3) := by decide +kernel
theorem dJ9_floorMod_7cf53_14 : decode cJ9_floorMod_7cf53 14 = .ok (.iload_n 2, 1) := by decide +kernel
theorem dJ9_floorMod_7cf53_15 : decode cJ9_floorMod_7cf53 15 = .ok (.iload_n 1, 1) := by decide +kernel
theorem dJ9_floorMod_7cf53_16 : decode cJ9_floorMod_7cf53 16 = .ok (.iadd, 1) := by decide +kernel
theorem dJ9_floorMod_7cf53_17 : decode cJ9_floorMod_7cf53 17 = .ok (.ireturn, 1) := by decide +kernel
theorem dJ9_floorMod_7cf53_18 : decode cJ9_floorMod_7cf53 18 = .ok (.iload_n 2, 1) := by decide +kernel
theorem dJ9_floorMod_7cf53_19 : decode cJ9_floorMod_7cf53 19 = .ok (.ireturn, 1) := by decide +kernel
theorem dJ9_abs_0f7a4_0 : decode cJ9_abs_0f7a4 0 = .ok (.iload_n 0, 1) := by decide +kernel
theorem dJ9_abs_0f7a4_1 : decode cJ9_abs_0f7a4 1 = .ok (.ifCond .ge 8, 3) := by decide +kernel
theorem dJ9_abs_0f7a4_4 : decode cJ9_abs_0f7a4 4 = .ok (.iload_n 0, 1) := by decide +kernel
theorem dJ9_abs_0f7a4_5 : decode cJ9_abs_0f7a4 5 = .ok (.ineg, 1) := by decide +kernel
theorem dJ9_abs_0f7a4_6 : decode cJ9_abs_0f7a4 6 = .ok (.goto 4, 3) := by decide +kernel
theorem dJ9_abs_0f7a4_9 : decode cJ9_abs_0f7a4 9 = .ok (.iload_n 0, 1) := by decide +kernel
theorem dJ9_abs_0f7a4_10 : decode cJ9_abs_0f7a4 10 = .ok (.ireturn, 1) := by decide +kernel
theorem dJ9_max_7cf53_0 : decode cJ9_max_7cf53 0 = .ok (.iload_n 0, 1) := by decide +kernel
theorem dJ9_max_7cf53_1 : decode cJ9_max_7cf53 1 = .ok (.iload_n 1, 1) := by decide +kernel
theorem dJ9_max_7cf53_2 : decode cJ9_max_7cf53 2 = .ok (.if_icmp .lt 7, 3) := by decide +kernel
theorem dJ9_max_7cf53_5 : decode cJ9_max_7cf53 5 = .ok (.iload_n 0, 1) := by decide +kernel
theorem dJ9_max_7cf53_6 : decode cJ9_max_7cf53 6 = .ok (.goto 4, 3) := by decide +kernel
theorem dJ9_max_7cf53_9 : decode cJ9_max_7cf53 9 = .ok (.iload_n 1, 1) := by decide +kernel
theorem dJ9_max_7cf53_10 : decode cJ9_max_7cf53 10 = .ok (.ireturn, 1) := by decide +kernel
theorem dJ9_min_7cf53_0 : decode cJ9_min_7cf53 0 = .ok (.iload_n 0, 1) := by decide +kernel
theorem dJ9_min_7cf53_1 : decode cJ9_min_7cf53 1 = .ok (.iload_n 1, 1) := by decide +kernel
theorem dJ9_min_7cf53_2 : decode cJ9_min_7cf53 2 = .ok (.if_icmp .gt 7, 3) := by decide +kernel
theorem dJ9_min_7cf53_5 : decode cJ9_min_7cf53 5 = .ok (.iload_n 0, 1) := by decide +kernel
theorem dJ9_min_7cf53_6 : decode cJ9_min_7cf53 6 = .ok (.goto 4, 3) := by decide +kernel
theorem dJ9_min_7cf53_9 : decode cJ9_min_7cf53 9 = .ok (.iload_n 1, 1) := by decide +kernel
theorem dJ9_min_7cf53_10 : decode cJ9_min_7cf53 10 = .ok (.ireturn, 1) := by decide +kernel
theorem dL_cell_0 : decode cL_cell 0 = .ok (.iload_n 1, 1) := by decide +kernel
theorem dL_cell_1 : decode cL_cell 1 = .ok (.aload_n 0, 1) := by decide +kernel
theorem dL_cell_2 : decode cL_cell 2 = .ok (.arraylength, 1) := by decide +kernel
theorem dL_cell_3 : decode cL_cell 3 = .ok (.if_icmp .ge 9, 3) := by decide +kernel
theorem dL_cell_6 : decode cL_cell 6 = .ok (.aload_n 0, 1) := by decide +kernel
theorem dL_cell_7 : decode cL_cell 7 = .ok (.iload_n 1, 1) := by decide +kernel
theorem dL_cell_8 : decode cL_cell 8 = .ok (.iaload, 1) := by decide +kernel
theorem dL_cell_9 : decode cL_cell 9 = .ok (.goto 15, 3) := by decide +kernel
theorem dL_cell_12 : decode cL_cell 12 = .ok (.sipush 7919, 3) := by decide +kernel
theorem dL_cell_15 : decode cL_cell 15 = .ok (.iload_n 1, 1) := by decide +kernel
theorem dL_cell_16 : decode cL_cell 16 = .ok (.iconst 3, 1) := by decide +kernel
theorem dL_cell_17 : decode cL_cell 17 = .ok (.iadd, 1) := by decide +kernel
theorem dL_cell_18 : decode cL_cell 18 = .ok (.imul, 1) := by decide +kernel
theorem dL_cell_19 : decode cL_cell 19 = .ok (.iload_n 1, 1) := by decide +kernel
theorem dL_cell_20 : decode cL_cell 20 = .ok (.bipush 11, 2) := by decide +kernel
theorem dL_cell_22 : decode cL_cell 22 = .ok (.iadd, 1) := by decide +kernel
theorem dL_cell_23 : decode cL_cell 23 = .ok (.imul, 1) := by decide +kernel
theorem dL_cell_24 : decode cL_cell 24 = .ok (.ireturn, 1) := by decide +kernel
theorem dL_low_0 : decode cL_low 0 = .ok (.iload_n 0, 1) := by decide +kernel
theorem dL_low_1 : decode cL_low 1 = .ok (.ldc 7, 2) := by decide +kernel
theorem dL_low_3 : decode cL_low 3 = .ok (.iand, 1) := by decide +kernel
theorem dL_low_4 : decode cL_low 4 = .ok (.iload_n 1, 1) := by decide +kernel
theorem dL_low_5 : decode cL_low 5 = .ok (.irem, 1) := by decide +kernel
theorem dL_low_6 : decode cL_low 6 = .ok (.ireturn, 1) := by decide +kernel
set_option maxRecDepth 20000 in
theorem ggL_digest_X10_count : GoodIn wsL_digest wsX10_count := goodIn_r _ [7, 8, 9, 10, 11, 12, 13, 14, 15, 16, 17, 18, 19, 20, 21, 22, 23, 24, 25, 26, 27, 28, 29, 30, 31, 32, 33, 34, 35, 36, 37, 38, 39, 40, 41, 42, 43, 44, 45, 46, 47, 48, 49, 50, 51, 52, 53, 54, 55, 56, 57, 58, 59, 60, 139, 140, 141, 142, 143, 144, 145, 146, 147, 148, 149, 150, 151, 152, 153, 154, 155, 156, 157, 158, 159, 160, 161, 162, 163, 164, 165, 166, 167, 168, 169, 170, 171] (by decide +kernel) (by decide +kernel)
set_option maxRecDepth 20000 in
theorem gL_digest_X10_count : GoodIn wsL_digest (wsV RL 12 RX10 yX10_count wsX10_count) := goodIn_app (goodIn_of _ (by decide +kernel)) ggL_digest_X10_count
set_option maxRecDepth 20000 in
theorem ggL_digest_X10_channel : GoodIn wsL_digest wsX10_channel := goodIn_r _ [64, 18, 8, 65, 9, 66, 67, 68, 6, 69, 70, 71, 72, 73, 26, 27, 28, 29, 30, 31, 74, 75, 76, 22, 77, 78, 79, 80, 25, 81, 33, 34, 35, 36, 37, 38, 82, 83, 84, 85, 86, 87, 88, 89, 50, 55, 139, 140, 141, 142, 143, 144, 145, 146, 147, 148, 149, 150, 151, 152, 153, 154, 155, 168, 169] (by decide +kernel) (by decide +kernel)
set_option maxRecDepth 20000 in
theorem gL_digest_X10_channel : GoodIn wsL_digest (wsV RL 18 RX10 yX10_channel wsX10_channel) := goodIn_app (goodIn_of _ (by decide +kernel)) ggL_digest_X10_channel
set_option maxRecDepth 20000 in
theorem ggL_digest_X10_entry : GoodIn wsL_digest wsX10_entry := goodIn_r _ [93, 18, 8, 9, 94, 95, 70, 71, 6, 72, 96, 97, 98, 99, 10, 73, 26, 27, 28, 29, 30, 31, 139, 140, 141, 142, 143, 144, 145, 146, 147, 148, 149, 150, 151, 152, 153, 154, 155, 168, 169] (by decide +kernel) (by decide +kernel)
set_option maxRecDepth 20000 in
theorem gL_digest_X10_entry : GoodIn wsL_digest (wsV RL 22 RX10 yX10_entry wsX10_entry) := goodIn_app (goodIn_of _ (by decide +kernel)) ggL_digest_X10_entry
set_option maxRecDepth 20000 in
theorem ggL_digest_X10_sample : GoodIn wsL_digest wsX10_sample := goodIn_r _ [103, 18, 8, 11, 12, 95, 70, 71, 6, 72, 104, 105, 106, 107, 108, 109, 110, 111, 112, 84, 113, 114, 26, 27, 28, 29, 30, 31, 139, 140, 141, 142, 143, 144, 145, 146, 147, 148, 149, 150, 151, 156, 157, 158, 168, 169] (by decide +kernel) (by decide +kernel)
set_option maxRecDepth 20000 in
theorem gL_digest_X10_sample : GoodIn wsL_digest (wsV RL 25 RX10 yX10_sample wsX10_sample) := goodIn_app (goodIn_of _ (by decide +kernel)) ggL_digest_X10_sample
set_option maxRecDepth 20000 in
theorem ggL_digest_X10_account : GoodIn wsL_digest wsX10_account := goodIn_r _ [118, 8, 119, 18, 19, 20, 21, 22, 23, 24, 25, 26, 27, 28, 29, 30, 31, 70, 71, 6, 72, 73, 139, 140, 141, 142, 143, 144, 145, 146, 147, 148, 149, 150, 151, 168, 169] (by decide +kernel) (by decide +kernel)
set_option maxRecDepth 20000 in
theorem gL_digest_X10_account : GoodIn wsL_digest (wsV RL 28 RX10 yX10_account wsX10_account) := goodIn_app (goodIn_of _ (by decide +kernel)) ggL_digest_X10_account
set_option maxRecDepth 20000 in
theorem ggL_digest_X10_held : GoodIn wsL_digest wsX10_held := goodIn_r _ [123, 8, 124, 9, 125, 18, 126, 127, 128, 35, 129, 130, 33, 34, 36, 37, 38, 26, 27, 28, 29, 30, 31, 131, 6, 132, 133, 134, 135, 136, 137, 138, 139, 140, 141, 142, 143, 144, 145, 146, 147, 148, 149, 150, 151, 152, 153, 154, 155, 168, 169] (by decide +kernel) (by decide +kernel)
set_option maxRecDepth 20000 in
theorem gL_digest_X10_held : GoodIn wsL_digest (wsV RL 31 RX10 yX10_held wsX10_held) := goodIn_app (goodIn_of _ (by decide +kernel)) ggL_digest_X10_held
theorem dL_digest_0 : decode cL_digest 0 = .ok (.ldc2_w 8, 3) := by decide +kernel
theorem dL_digest_3 : decode cL_digest 3 = .ok (.lstore_n 1, 1) := by decide +kernel
theorem dL_digest_4 : decode cL_digest 4 = .ok (.iconst 0, 1) := by decide +kernel
theorem dL_digest_5 : decode cL_digest 5 = .ok (.istore_n 3, 1) := by decide +kernel
theorem dL_digest_6 : decode cL_digest 6 = .ok (.iload_n 3, 1) := by decide +kernel
theorem dL_digest_7 : decode cL_digest 7 = .ok (.bipush 13, 2) := by decide +kernel
theorem dL_digest_9 : decode cL_digest 9 = .ok (.if_icmp .ge 38, 3) := by decide +kernel
theorem dL_digest_12 : decode cL_digest 12 = .ok (.iload_n 3, 1) := by decide +kernel
theorem dL_digest_13 : decode cL_digest 13 = .ok (.bipush 8, 2) := by decide +kernel
theorem dL_digest_15 : decode cL_digest 15 = .ok (.if_icmp .eq 9, 3) := by decide +kernel
theorem dL_digest_18 : decode cL_digest 18 = .ok (.iload_n 3, 1) := by decide +kernel
theorem dL_digest_19 : decode cL_digest 19 = .ok (.bipush 9, 2) := by decide +kernel
theorem dL_digest_21 : decode cL_digest 21 = .ok (.if_icmp .ne 7, 3) := by decide +kernel
theorem dL_digest_24 : decode cL_digest 24 = .ok (.lload_n 1, 1) := by decide +kernel
theorem dL_digest_25 : decode cL_digest 25 = .ok (.goto 15, 3) := by decide +kernel
theorem dL_digest_28 : decode cL_digest 28 = .ok (.ldc2_w 10, 3) := by decide +kernel
theorem dL_digest_31 : decode cL_digest 31 = .ok (.lload_n 1, 1) := by decide +kernel
theorem dL_digest_32 : decode cL_digest 32 = .ok (.lmul, 1) := by decide +kernel
theorem dL_digest_33 : decode cL_digest 33 = .ok (.aload_n 0, 1) := by decide +kernel
theorem dL_digest_34 : decode cL_digest 34 = .ok (.iload_n 3, 1) := by decide +kernel
theorem dL_digest_35 : decode cL_digest 35 = .ok (.invokevirtual 12, 3) := by decide +kernel
theorem dL_digest_38 : decode cL_digest 38 = .ok (.i2l, 1) := by decide +kernel
theorem dL_digest_39 : decode cL_digest 39 = .ok (.ladd, 1) := by decide +kernel
theorem dL_digest_40 : decode cL_digest 40 = .ok (.lstore_n 1, 1) := by decide +kernel
theorem dL_digest_41 : decode cL_digest 41 = .ok (.iinc 3 1, 3) := by decide +kernel
theorem dL_digest_44 : decode cL_digest 44 = .ok (.goto (-38), 3) := by decide +kernel
theorem dL_digest_47 : decode cL_digest 47 = .ok (.iconst 0, 1) := by decide +kernel
theorem dL_digest_48 : decode cL_digest 48 = .ok (.istore_n 3, 1) := by decide +kernel
theorem dL_digest_49 : decode cL_digest 49 = .ok (.iload_n 3, 1) := by decide +kernel
theorem dL_digest_50 : decode cL_digest 50 = .ok (.bipush 8, 2) := by decide +kernel
theorem dL_digest_52 : decode cL_digest 52 = .ok (.if_icmp .ge 40, 3) := by decide +kernel
theorem dL_digest_55 : decode cL_digest 55 = .ok (.iconst 0, 1) := by decide +kernel
theorem dL_digest_56 : decode cL_digest 56 = .ok (.istore 4, 2) := by decide +kernel
theorem dL_digest_58 : decode cL_digest 58 = .ok (.iload 4, 2) := by decide +kernel
theorem dL_digest_60 : decode cL_digest 60 = .ok (.bipush 8, 2) := by decide +kernel
theorem dL_digest_62 : decode cL_digest 62 = .ok (.if_icmp .ge 24, 3) := by decide +kernel
theorem dL_digest_65 : decode cL_digest 65 = .ok (.ldc2_w 10, 3) := by decide +kernel
theorem dL_digest_68 : decode cL_digest 68 = .ok (.lload_n 1, 1) := by decide +kernel
theorem dL_digest_69 : decode cL_digest 69 = .ok (.lmul, 1) := by decide +kernel
theorem dL_digest_70 : decode cL_digest 70 = .ok (.aload_n 0, 1) := by decide +kernel
theorem dL_digest_71 : decode cL_digest 71 = .ok (.iload_n 3, 1) := by decide +kernel
theorem dL_digest_72 : decode cL_digest 72 = .ok (.iload 4, 2) := by decide +kernel
theorem dL_digest_74 : decode cL_digest 74 = .ok (.invokevirtual 18, 3) := by decide +kernel
theorem dL_digest_77 : decode cL_digest 77 = .ok (.i2l, 1) := by decide +kernel
theorem dL_digest_78 : decode cL_digest 78 = .ok (.ladd, 1) := by decide +kernel
theorem dL_digest_79 : decode cL_digest 79 = .ok (.lstore_n 1, 1) := by decide +kernel
theorem dL_digest_80 : decode cL_digest 80 = .ok (.iinc 4 1, 3) := by decide +kernel
theorem dL_digest_83 : decode cL_digest 83 = .ok (.goto (-25), 3) := by decide +kernel
theorem dL_digest_86 : decode cL_digest 86 = .ok (.iinc 3 1, 3) := by decide +kernel
theorem dL_digest_89 : decode cL_digest 89 = .ok (.goto (-40), 3) := by decide +kernel
theorem dL_digest_92 : decode cL_digest 92 = .ok (.iconst 0, 1) := by decide +kernel
theorem dL_digest_93 : decode cL_digest 93 = .ok (.istore_n 3, 1) := by decide +kernel
theorem dL_digest_94 : decode cL_digest 94 = .ok (.iload_n 3, 1) := by decide +kernel
theorem dL_digest_95 : decode cL_digest 95 = .ok (.bipush 16, 2) := by decide +kernel
theorem dL_digest_97 : decode cL_digest 97 = .ok (.if_icmp .ge 37, 3) := by decide +kernel
theorem dL_digest_100 : decode cL_digest 100 = .ok (.ldc2_w 10, 3) := by decide +kernel
theorem dL_digest_103 : decode cL_digest 103 = .ok (.lload_n 1, 1) := by decide +kernel
theorem dL_digest_104 : decode cL_digest 104 = .ok (.lmul, 1) := by decide +kernel
theorem dL_digest_105 : decode cL_digest 105 = .ok (.aload_n 0, 1) := by decide +kernel
theorem dL_digest_106 : decode cL_digest 106 = .ok (.iload_n 3, 1) := by decide +kernel
theorem dL_digest_107 : decode cL_digest 107 = .ok (.iconst 0, 1) := by decide +kernel
theorem dL_digest_108 : decode cL_digest 108 = .ok (.invokevirtual 22, 3) := by decide +kernel
theorem dL_digest_111 : decode cL_digest 111 = .ok (.i2l, 1) := by decide +kernel
theorem dL_digest_112 : decode cL_digest 112 = .ok (.ladd, 1) := by decide +kernel
theorem dL_digest_113 : decode cL_digest 113 = .ok (.lstore_n 1, 1) := by decide +kernel
theorem dL_digest_114 : decode cL_digest 114 = .ok (.ldc2_w 10, 3) := by decide +kernel
theorem dL_digest_117 : decode cL_digest 117 = .ok (.lload_n 1, 1) := by decide +kernel
theorem dL_digest_118 : decode cL_digest 118 = .ok (.lmul, 1) := by decide +kernel
theorem dL_digest_119 : decode cL_digest 119 = .ok (.aload_n 0, 1) := by decide +kernel
theorem dL_digest_120 : decode cL_digest 120 = .ok (.iload_n 3, 1) := by decide +kernel
theorem dL_digest_121 : decode cL_digest 121 = .ok (.iconst 1, 1) := by decide +kernel
theorem dL_digest_122 : decode cL_digest 122 = .ok (.invokevirtual 22, 3) := by decide +kernel
theorem dL_digest_125 : decode cL_digest 125 = .ok (.i2l, 1) := by decide +kernel
theorem dL_digest_126 : decode cL_digest 126 = .ok (.ladd, 1) := by decide +kernel
theorem dL_digest_127 : decode cL_digest 127 = .ok (.lstore_n 1, 1) := by decide +kernel
theorem dL_digest_128 : decode cL_digest 128 = .ok (.iinc 3 1, 3) := by decide +kernel
theorem dL_digest_131 : decode cL_digest 131 = .ok (.goto (-37), 3) := by decide +kernel
theorem dL_digest_134 : decode cL_digest 134 = .ok (.iconst 0, 1) := by decide +kernel
theorem dL_digest_135 : decode cL_digest 135 = .ok (.istore_n 3, 1) := by decide +kernel
theorem dL_digest_136 : decode cL_digest 136 = .ok (.iload_n 3, 1) := by decide +kernel
theorem dL_digest_137 : decode cL_digest 137 = .ok (.bipush 32, 2) := by decide +kernel
theorem dL_digest_139 : decode cL_digest 139 = .ok (.if_icmp .ge 39, 3) := by decide +kernel
theorem dL_digest_142 : decode cL_digest 142 = .ok (.iconst 0, 1) := by decide +kernel
theorem dL_digest_143 : decode cL_digest 143 = .ok (.istore 4, 2) := by decide +kernel
theorem dL_digest_145 : decode cL_digest 145 = .ok (.iload 4, 2) := by decide +kernel
theorem dL_digest_147 : decode cL_digest 147 = .ok (.iconst 5, 1) := by decide +kernel
theorem dL_digest_148 : decode cL_digest 148 = .ok (.if_icmp .ge 24, 3) := by decide +kernel
theorem dL_digest_151 : decode cL_digest 151 = .ok (.ldc2_w 10, 3) := by decide +kernel
theorem dL_digest_154 : decode cL_digest 154 = .ok (.lload_n 1, 1) := by decide +kernel
theorem dL_digest_155 : decode cL_digest 155 = .ok (.lmul, 1) := by decide +kernel
theorem dL_digest_156 : decode cL_digest 156 = .ok (.aload_n 0, 1) := by decide +kernel
theorem dL_digest_157 : decode cL_digest 157 = .ok (.iload_n 3, 1) := by decide +kernel
theorem dL_digest_158 : decode cL_digest 158 = .ok (.iload 4, 2) := by decide +kernel
theorem dL_digest_160 : decode cL_digest 160 = .ok (.invokevirtual 25, 3) := by decide +kernel
theorem dL_digest_163 : decode cL_digest 163 = .ok (.i2l, 1) := by decide +kernel
theorem dL_digest_164 : decode cL_digest 164 = .ok (.ladd, 1) := by decide +kernel
theorem dL_digest_165 : decode cL_digest 165 = .ok (.lstore_n 1, 1) := by decide +kernel
theorem dL_digest_166 : decode cL_digest 166 = .ok (.iinc 4 1, 3) := by decide +kernel
theorem dL_digest_169 : decode cL_digest 169 = .ok (.goto (-24), 3) := by decide +kernel
theorem dL_digest_172 : decode cL_digest 172 = .ok (.iinc 3 1, 3) := by decide +kernel
theorem dL_digest_175 : decode cL_digest 175 = .ok (.goto (-39), 3) := by decide +kernel
theorem dL_digest_178 : decode cL_digest 178 = .ok (.iconst 0, 1) := by decide +kernel
theorem dL_digest_179 : decode cL_digest 179 = .ok (.istore_n 3, 1) := by decide +kernel
theorem dL_digest_180 : decode cL_digest 180 = .ok (.iload_n 3, 1) := by decide +kernel
theorem dL_digest_181 : decode cL_digest 181 = .ok (.bipush 7, 2) := by decide +kernel
theorem dL_digest_183 : decode cL_digest 183 = .ok (.if_icmp .ge 22, 3) := by decide +kernel
theorem dL_digest_186 : decode cL_digest 186 = .ok (.ldc2_w 10, 3) := by decide +kernel
theorem dL_digest_189 : decode cL_digest 189 = .ok (.lload_n 1, 1) := by decide +kernel
theorem dL_digest_190 : decode cL_digest 190 = .ok (.lmul, 1) := by decide +kernel
theorem dL_digest_191 : decode cL_digest 191 = .ok (.aload_n 0, 1) := by decide +kernel
theorem dL_digest_192 : decode cL_digest 192 = .ok (.iload_n 3, 1) := by decide +kernel
theorem dL_digest_193 : decode cL_digest 193 = .ok (.invokevirtual 28, 3) := by decide +kernel
theorem dL_digest_196 : decode cL_digest 196 = .ok (.i2l, 1) := by decide +kernel
theorem dL_digest_197 : decode cL_digest 197 = .ok (.ladd, 1) := by decide +kernel
theorem dL_digest_198 : decode cL_digest 198 = .ok (.lstore_n 1, 1) := by decide +kernel
theorem dL_digest_199 : decode cL_digest 199 = .ok (.iinc 3 1, 3) := by decide +kernel
theorem dL_digest_202 : decode cL_digest 202 = .ok (.goto (-22), 3) := by decide +kernel
theorem dL_digest_205 : decode cL_digest 205 = .ok (.ldc2_w 10, 3) := by decide +kernel
theorem dL_digest_208 : decode cL_digest 208 = .ok (.lload_n 1, 1) := by decide +kernel
theorem dL_digest_209 : decode cL_digest 209 = .ok (.lmul, 1) := by decide +kernel
theorem dL_digest_210 : decode cL_digest 210 = .ok (.aload_n 0, 1) := by decide +kernel
theorem dL_digest_211 : decode cL_digest 211 = .ok (.iconst 2, 1) := by decide +kernel
theorem dL_digest_212 : decode cL_digest 212 = .ok (.invokevirtual 31, 3) := by decide +kernel
theorem dL_digest_215 : decode cL_digest 215 = .ok (.i2l, 1) := by decide +kernel
theorem dL_digest_216 : decode cL_digest 216 = .ok (.ladd, 1) := by decide +kernel
theorem dL_digest_217 : decode cL_digest 217 = .ok (.lreturn, 1) := by decide +kernel
set_option maxRecDepth 20000 in
theorem ggL_act_L_low : GoodIn wsL_act wsL_low := goodIn_r _ [4, 5] (by decide +kernel) (by decide +kernel)
set_option maxRecDepth 20000 in
theorem gL_act_L_low : GoodIn wsL_act (va_wsS RL 34 yL_low wsL_low) := goodIn_app (goodIn_of _ (by decide +kernel)) ggL_act_L_low
set_option maxRecDepth 20000 in
theorem ggL_act_X10_setSource : GoodIn wsL_act wsX10_setSource := goodIn_r _ [10, 11, 12, 13, 14, 15, 16, 17, 9, 18, 19, 20, 21, 22, 23, 24, 25, 26, 27, 28, 29, 30, 31, 32, 33, 34, 35, 36, 37, 38, 39, 40, 41, 42, 43, 44, 45, 46, 47, 48, 49, 50, 51, 52, 53, 54, 55, 56, 57, 58, 59, 60, 61, 62, 63, 64, 65, 66, 67, 68, 69, 70, 71, 72, 73, 74, 75, 76, 77, 78, 79, 80, 81, 82, 83, 84, 85, 86, 87, 88, 89, 90, 91, 92, 93, 94, 95, 96, 97, 98, 99, 100, 101, 102, 103, 318, 319, 320, 321, 322, 323, 324, 325, 326, 327, 328, 329, 330, 331, 332, 333, 334, 335, 336, 337, 338, 339, 340, 341, 342, 343, 344] (by decide +kernel) (by decide +kernel)
set_option maxRecDepth 20000 in
theorem gL_act_X10_setSource : GoodIn wsL_act (wsV RL 39 RX10 yX10_setSource wsX10_setSource) := goodIn_app (goodIn_of _ (by decide +kernel)) ggL_act_X10_setSource
set_option maxRecDepth 20000 in
theorem ggL_act_X10_setResistance : GoodIn wsL_act wsX10_setResistance := goodIn_r _ [107, 11, 12, 13, 14, 15, 16, 17, 9, 18, 19, 20, 21, 25, 26, 27, 28, 29, 30, 31, 32, 33, 34, 35, 36, 37, 38, 39, 40, 41, 42, 43, 44, 45, 46, 47, 48, 49, 50, 51, 52, 53, 54, 55, 56, 57, 58, 59, 60, 61, 62, 63, 64, 65, 66, 67, 68, 69, 70, 71, 72, 73, 74, 75, 76, 77, 78, 79, 80, 81, 82, 83, 84, 85, 86, 87, 88, 89, 90, 91, 92, 93, 94, 95, 108, 101, 102, 103, 318, 319, 320, 321, 322, 323, 324, 325, 326, 327, 328, 329, 330, 331, 332, 333, 334, 335, 336, 337, 338, 339, 340, 341, 342, 343, 344] (by decide +kernel) (by decide +kernel)
set_option maxRecDepth 20000 in
theorem gL_act_X10_setResistance : GoodIn wsL_act (wsV RL 43 RX10 yX10_setResistance wsX10_setResistance) := goodIn_app (goodIn_of _ (by decide +kernel)) ggL_act_X10_setResistance
set_option maxRecDepth 20000 in
theorem ggL_act_X10_set : GoodIn wsL_act wsX10_set := goodIn_r _ [112, 11, 12, 13, 14, 113, 114, 115, 9, 116, 19, 20, 21, 25, 26, 27, 28, 29, 30, 31, 32, 33, 34, 35, 36, 37, 38, 39, 40, 41, 42, 43, 44, 45, 46, 47, 48, 49, 50, 51, 52, 53, 54, 55, 56, 57, 58, 59, 60, 61, 62, 63, 64, 65, 66, 67, 68, 69, 70, 71, 72, 73, 74, 75, 76, 77, 78, 79, 80, 81, 82, 83, 84, 85, 86, 87, 88, 89, 90, 117, 118, 119, 120, 121, 92, 93, 94, 95, 108, 101, 102, 103, 318, 319, 320, 321, 322, 323, 324, 325, 326, 327, 328, 329, 330, 331, 332, 333, 334, 335, 336, 337, 338, 339, 340, 341, 342, 343, 344] (by decide +kernel) (by decide +kernel)
set_option maxRecDepth 20000 in
theorem gL_act_X10_set : GoodIn wsL_act (wsV RL 46 RX10 yX10_set wsX10_set) := goodIn_app (goodIn_of _ (by decide +kernel)) ggL_act_X10_set
set_option maxRecDepth 20000 in
theorem ggL_act_X10_addEntry : GoodIn wsL_act wsX10_addEntry := goodIn_r _ [125, 13, 14, 126, 11, 127, 12, 19, 20, 9, 21, 128, 129, 130, 25, 26, 27, 28, 29, 30, 31, 32, 33, 34, 35, 36, 37, 38, 39, 40, 41, 42, 43, 44, 45, 46, 47, 48, 49, 50, 51, 52, 53, 54, 55, 56, 57, 58, 59, 60, 61, 62, 63, 64, 65, 66, 67, 68, 69, 70, 71, 72, 73, 74, 75, 76, 77, 78, 79, 80, 81, 82, 83, 84, 85, 86, 87, 88, 89, 90, 131, 132, 133, 134, 135, 136, 137, 138, 95, 139, 92, 93, 94, 140, 101, 102, 103, 100, 318, 319, 320, 321, 322, 323, 324, 325, 326, 327, 328, 329, 330, 331, 332, 333, 334, 335, 336, 337, 338, 339, 340, 341, 342, 343, 344] (by decide +kernel) (by decide +kernel)
set_option maxRecDepth 20000 in
theorem gL_act_X10_addEntry : GoodIn wsL_act (wsV RL 49 RX10 yX10_addEntry wsX10_addEntry) := goodIn_app (goodIn_of _ (by decide +kernel)) ggL_act_X10_addEntry
set_option maxRecDepth 20000 in
theorem ggL_act_X10_removeEntry : GoodIn wsL_act wsX10_removeEntry := goodIn_r _ [144, 11, 12, 13, 14, 126, 145, 146, 147, 9, 148, 19, 20, 21, 25, 26, 27, 28, 29, 30, 31, 32, 33, 34, 35, 36, 37, 38, 39, 40, 41, 42, 43, 44, 45, 46, 47, 48, 49, 50, 51, 52, 53, 54, 55, 56, 57, 58, 59, 60, 61, 62, 63, 64, 65, 66, 67, 68, 69, 70, 71, 72, 73, 74, 75, 76, 77, 78, 79, 80, 81, 82, 83, 84, 85, 86, 87, 88, 89, 90, 149, 150, 151, 152, 135, 136, 137, 138, 95, 139, 92, 93, 94, 140, 101, 102, 103, 318, 319, 320, 321, 322, 323, 324, 325, 326, 327, 328, 329, 330, 331, 332, 333, 334, 335, 336, 337, 338, 339, 340, 341, 342, 343, 344] (by decide +kernel) (by decide +kernel)
set_option maxRecDepth 20000 in
theorem gL_act_X10_removeEntry : GoodIn wsL_act (wsV RL 53 RX10 yX10_removeEntry wsX10_removeEntry) := goodIn_app (goodIn_of _ (by decide +kernel)) ggL_act_X10_removeEntry
set_option maxRecDepth 20000 in
theorem ggL_act_X10_setSettle : GoodIn wsL_act wsX10_setSettle := goodIn_r _ [156, 11, 12, 13, 14, 157, 145, 146, 147, 9, 148, 126, 19, 20, 21, 128, 129, 130, 25, 26, 27, 28, 29, 30, 31, 32, 33, 34, 35, 36, 37, 38, 39, 40, 41, 42, 43, 44, 45, 46, 47, 48, 49, 50, 51, 52, 53, 54, 55, 56, 57, 58, 59, 60, 61, 62, 63, 64, 65, 66, 67, 68, 69, 70, 71, 72, 73, 74, 75, 76, 77, 78, 79, 80, 81, 82, 83, 84, 85, 86, 87, 88, 89, 90, 91, 92, 93, 94, 95, 108, 101, 102, 103, 318, 319, 320, 321, 322, 323, 324, 325, 326, 327, 328, 329, 330, 331, 332, 333, 334, 335, 336, 337, 338, 339, 340, 341, 342, 343, 344] (by decide +kernel) (by decide +kernel)
set_option maxRecDepth 20000 in
theorem gL_act_X10_setSettle : GoodIn wsL_act (wsV RL 56 RX10 yX10_setSettle wsX10_setSettle) := goodIn_app (goodIn_of _ (by decide +kernel)) ggL_act_X10_setSettle
set_option maxRecDepth 20000 in
theorem ggL_act_X10_order : GoodIn wsL_act wsX10_order := goodIn_r _ [161, 11, 12, 13, 162, 14, 19, 20, 9, 21, 25, 26, 27, 28, 29, 30, 31, 32, 33, 34, 35, 36, 37, 38, 39, 40, 41, 42, 43, 44, 45, 46, 47, 48, 49, 50, 51, 52, 53, 54, 55, 56, 57, 58, 59, 60, 61, 62, 63, 64, 65, 66, 67, 68, 69, 70, 71, 72, 73, 74, 75, 76, 77, 78, 79, 80, 81, 82, 83, 84, 85, 86, 87, 88, 89, 90, 163, 164, 165, 166, 167, 92, 93, 94, 95, 168, 169, 170, 171, 172, 173, 174, 175, 176, 177, 178, 179, 180, 181, 182, 183, 184, 121, 185, 186, 187, 188, 189, 190, 191, 192, 193, 118, 119, 120, 194, 195, 196, 197, 198, 199, 200, 201, 202, 203, 204, 205, 206, 136, 137, 138, 139, 140, 101, 102, 103, 207, 208, 318, 319, 320, 321, 322, 323, 324, 325, 326, 327, 328, 329, 330, 335, 336, 337, 331, 332, 333, 334, 338, 339, 340, 341, 342, 343, 344, 345, 346, 347] (by decide +kernel) (by decide +kernel)
set_option maxRecDepth 20000 in
theorem gL_act_X10_order : GoodIn wsL_act (wsV RL 59 RX10 yX10_order wsX10_order) := goodIn_app (goodIn_of _ (by decide +kernel)) ggL_act_X10_order
set_option maxRecDepth 20000 in
theorem ggL_act_X10_pass : GoodIn wsL_act wsX10_pass := goodIn_r _ [212, 11, 13, 127, 12, 19, 20, 9, 21, 163, 164, 165, 44, 166, 49, 167, 92, 93, 65, 94, 95, 67, 25, 26, 27, 28, 29, 30, 31, 32, 33, 34, 35, 36, 37, 38, 39, 40, 41, 42, 43, 45, 46, 47, 48, 50, 51, 52, 53, 54, 55, 56, 57, 58, 59, 60, 61, 62, 63, 64, 66, 68, 69, 70, 71, 72, 73, 74, 75, 76, 77, 78, 79, 80, 81, 82, 83, 84, 85, 86, 87, 88, 89, 90, 213, 214, 215, 216, 217, 101, 102, 103, 318, 319, 320, 321, 322, 323, 324, 325, 326, 327, 328, 329, 330, 338, 339, 335, 336, 337, 331, 332, 333, 334, 340, 341, 342, 343, 344] (by decide +kernel) (by decide +kernel)
set_option maxRecDepth 20000 in
theorem gL_act_X10_pass : GoodIn wsL_act (wsV RL 62 RX10 yX10_pass wsX10_pass) := goodIn_app (goodIn_of _ (by decide +kernel)) ggL_act_X10_pass
set_option maxRecDepth 20000 in
theorem ggL_act_X10_take : GoodIn wsL_act wsX10_take := goodIn_r _ [221, 11, 12, 13, 222, 223, 14, 126, 224, 225, 9, 226, 19, 20, 21, 25, 26, 27, 28, 29, 30, 31, 32, 33, 34, 35, 36, 37, 38, 39, 40, 41, 42, 43, 44, 45, 46, 47, 48, 49, 50, 51, 52, 53, 54, 55, 56, 57, 58, 59, 60, 61, 62, 63, 64, 65, 66, 67, 68, 69, 70, 71, 72, 73, 74, 75, 76, 77, 78, 79, 80, 81, 82, 83, 84, 85, 86, 87, 88, 89, 90, 227, 228, 229, 230, 231, 318, 319, 320, 321, 322, 323, 343, 344, 324, 325, 326, 327, 328, 329, 330, 331, 332, 333, 334, 335, 336, 337, 338, 339, 340, 341, 342] (by decide +kernel) (by decide +kernel)
set_option maxRecDepth 20000 in
theorem gL_act_X10_take : GoodIn wsL_act (wsV RL 65 RX10 yX10_take wsX10_take) := goodIn_app (goodIn_of _ (by decide +kernel)) ggL_act_X10_take
set_option maxRecDepth 20000 in
theorem ggL_act_X10_restore : GoodIn wsL_act wsX10_restore := goodIn_r _ [235, 11, 13, 222, 236, 12, 14, 223, 126, 224, 225, 9, 226, 19, 20, 21, 227, 228, 229, 44, 230, 50, 51, 25, 26, 27, 28, 29, 30, 31, 32, 33, 34, 35, 36, 37, 38, 39, 40, 41, 42, 43, 45, 46, 47, 48, 49, 52, 53, 54, 55, 56, 57, 58, 59, 60, 61, 62, 63, 64, 65, 66, 67, 68, 69, 70, 71, 72, 73, 74, 75, 76, 77, 78, 79, 80, 81, 82, 83, 84, 85, 86, 87, 88, 89, 90, 231, 318, 319, 320, 321, 322, 323, 343, 344, 324, 325, 326, 327, 328, 329, 330, 331, 332, 333, 334, 335, 336, 337, 338, 339, 340, 341, 342] (by decide +kernel) (by decide +kernel)
set_option maxRecDepth 20000 in
theorem gL_act_X10_restore : GoodIn wsL_act (wsV RL 68 RX10 yX10_restore wsX10_restore) := goodIn_app (goodIn_of _ (by decide +kernel)) ggL_act_X10_restore
set_option maxRecDepth 20000 in
theorem ggL_act_X10_scan : GoodIn wsL_act wsX10_scan := goodIn_r _ [240, 11, 13, 14, 126, 236, 127, 12, 241, 242, 243, 19, 20, 9, 21, 163, 164, 165, 44, 166, 49, 167, 92, 93, 65, 94, 95, 67, 244, 245, 246, 56, 247, 61, 248, 249, 250, 251, 59, 121, 25, 26, 27, 28, 29, 30, 31, 32, 33, 34, 35, 36, 37, 38, 39, 40, 41, 42, 43, 45, 46, 47, 48, 50, 51, 52, 53, 54, 55, 57, 58, 60, 62, 63, 64, 66, 68, 69, 70, 71, 72, 73, 74, 75, 76, 77, 78, 79, 80, 81, 82, 83, 84, 85, 86, 87, 88, 89, 90, 91, 252, 253, 254, 255, 256, 257, 258, 259, 260, 261, 262, 157, 263, 264, 265, 266, 267, 268, 269, 270, 271, 272, 273, 274, 275, 276, 182, 183, 184, 277, 186, 187, 188, 189, 190, 191, 192, 193, 118, 119, 120, 194, 195, 196, 197, 198, 199, 200, 278, 279, 280, 281, 282, 283, 284, 285, 286, 287, 288, 289, 290, 291, 292, 293, 294, 295, 296, 297, 298, 299, 300, 301, 302, 303, 304, 305, 306, 307, 308, 309, 101, 102, 103, 310, 311, 312, 313, 217, 314, 315, 316, 317, 214, 215, 216, 318, 319, 320, 321, 322, 323, 324, 325, 326, 327, 328, 329, 330, 331, 332, 333, 334, 338, 339, 335, 336, 337, 340, 341, 342, 343, 344, 348, 349, 350, 351, 352] (by decide +kernel) (by decide +kernel)
set_option maxRecDepth 20000 in
theorem gL_act_X10_scan : GoodIn wsL_act (wsV RL 71 RX10 yX10_scan wsX10_scan) := goodIn_app (goodIn_of _ (by decide +kernel)) ggL_act_X10_scan
theorem dL_act_0 : decode cL_act 0 = .ok (.iload_n 1, 1) := by decide +kernel
theorem dL_act_1 : decode cL_act 1 = .ok (.iconst 4, 1) := by decide +kernel
theorem dL_act_2 : decode cL_act 2 = .ok (.ishr, 1) := by decide +kernel
theorem dL_act_3 : decode cL_act 3 = .ok (.istore_n 2, 1) := by decide +kernel
theorem dL_act_4 : decode cL_act 4 = .ok (.iload_n 1, 1) := by decide +kernel
theorem dL_act_5 : decode cL_act 5 = .ok (.bipush 15, 2) := by decide +kernel
theorem dL_act_7 : decode cL_act 7 = .ok (.iand, 1) := by decide +kernel
theorem dL_act_8 : decode cL_act 8 = .ok (.tableswitch 317 0 12 #[68, 92, 127, 168, 187, 206, 206, 206, 233, 244, 264, 274, 287], 68) := by decide +kernel
theorem dL_act_76 : decode cL_act 76 = .ok (.aload_n 0, 1) := by decide +kernel
theorem dL_act_77 : decode cL_act 77 = .ok (.iload_n 2, 1) := by decide +kernel
theorem dL_act_78 : decode cL_act 78 = .ok (.bipush 8, 2) := by decide +kernel
theorem dL_act_80 : decode cL_act 80 = .ok (.invokestatic 34, 3) := by decide +kernel
theorem dL_act_83 : decode cL_act 83 = .ok (.iconst 0, 1) := by decide +kernel
theorem dL_act_84 : decode cL_act 84 = .ok (.iload_n 1, 1) := by decide +kernel
theorem dL_act_85 : decode cL_act 85 = .ok (.bipush 9, 2) := by decide +kernel
theorem dL_act_87 : decode cL_act 87 = .ok (.imul, 1) := by decide +kernel
theorem dL_act_88 : decode cL_act 88 = .ok (.sipush 4096, 3) := by decide +kernel
theorem dL_act_91 : decode cL_act 91 = .ok (.invokestatic 34, 3) := by decide +kernel
theorem dL_act_94 : decode cL_act 94 = .ok (.iconst 0, 1) := by decide +kernel
theorem dL_act_95 : decode cL_act 95 = .ok (.iconst 0, 1) := by decide +kernel
theorem dL_act_96 : decode cL_act 96 = .ok (.invokevirtual 39, 3) := by decide +kernel
theorem dL_act_99 : decode cL_act 99 = .ok (.ireturn, 1) := by decide +kernel
theorem dL_act_100 : decode cL_act 100 = .ok (.aload_n 0, 1) := by decide +kernel
theorem dL_act_101 : decode cL_act 101 = .ok (.iload_n 2, 1) := by decide +kernel
theorem dL_act_102 : decode cL_act 102 = .ok (.bipush 8, 2) := by decide +kernel
theorem dL_act_104 : decode cL_act 104 = .ok (.invokestatic 34, 3) := by decide +kernel
theorem dL_act_107 : decode cL_act 107 = .ok (.iconst 1, 1) := by decide +kernel
theorem dL_act_108 : decode cL_act 108 = .ok (.iload_n 1, 1) := by decide +kernel
theorem dL_act_109 : decode cL_act 109 = .ok (.bipush 9, 2) := by decide +kernel
theorem dL_act_111 : decode cL_act 111 = .ok (.imul, 1) := by decide +kernel
theorem dL_act_112 : decode cL_act 112 = .ok (.sipush 4096, 3) := by decide +kernel
theorem dL_act_115 : decode cL_act 115 = .ok (.invokestatic 34, 3) := by decide +kernel
theorem dL_act_118 : decode cL_act 118 = .ok (.iload_n 1, 1) := by decide +kernel
theorem dL_act_119 : decode cL_act 119 = .ok (.iconst 3, 1) := by decide +kernel
theorem dL_act_120 : decode cL_act 120 = .ok (.ishr, 1) := by decide +kernel
theorem dL_act_121 : decode cL_act 121 = .ok (.sipush 129, 3) := by decide +kernel
theorem dL_act_124 : decode cL_act 124 = .ok (.invokestatic 34, 3) := by decide +kernel
theorem dL_act_127 : decode cL_act 127 = .ok (.bipush 64, 2) := by decide +kernel
theorem dL_act_129 : decode cL_act 129 = .ok (.isub, 1) := by decide +kernel
theorem dL_act_130 : decode cL_act 130 = .ok (.iconst 0, 1) := by decide +kernel
theorem dL_act_131 : decode cL_act 131 = .ok (.invokevirtual 39, 3) := by decide +kernel
theorem dL_act_134 : decode cL_act 134 = .ok (.ireturn, 1) := by decide +kernel
theorem dL_act_135 : decode cL_act 135 = .ok (.aload_n 0, 1) := by decide +kernel
theorem dL_act_136 : decode cL_act 136 = .ok (.iload_n 2, 1) := by decide +kernel
theorem dL_act_137 : decode cL_act 137 = .ok (.bipush 8, 2) := by decide +kernel
theorem dL_act_139 : decode cL_act 139 = .ok (.invokestatic 34, 3) := by decide +kernel
theorem dL_act_142 : decode cL_act 142 = .ok (.iconst 2, 1) := by decide +kernel
theorem dL_act_143 : decode cL_act 143 = .ok (.iload_n 1, 1) := by decide +kernel
theorem dL_act_144 : decode cL_act 144 = .ok (.bipush 9, 2) := by decide +kernel
theorem dL_act_146 : decode cL_act 146 = .ok (.imul, 1) := by decide +kernel
theorem dL_act_147 : decode cL_act 147 = .ok (.sipush 4096, 3) := by decide +kernel
theorem dL_act_150 : decode cL_act 150 = .ok (.invokestatic 34, 3) := by decide +kernel
theorem dL_act_153 : decode cL_act 153 = .ok (.iload_n 1, 1) := by decide +kernel
theorem dL_act_154 : decode cL_act 154 = .ok (.iconst 5, 1) := by decide +kernel
theorem dL_act_155 : decode cL_act 155 = .ok (.imul, 1) := by decide +kernel
theorem dL_act_156 : decode cL_act 156 = .ok (.sipush 4096, 3) := by decide +kernel
theorem dL_act_159 : decode cL_act 159 = .ok (.invokestatic 34, 3) := by decide +kernel
theorem dL_act_162 : decode cL_act 162 = .ok (.iconst 1, 1) := by decide +kernel
theorem dL_act_163 : decode cL_act 163 = .ok (.iload_n 1, 1) := by decide +kernel
theorem dL_act_164 : decode cL_act 164 = .ok (.iconst 4, 1) := by decide +kernel
theorem dL_act_165 : decode cL_act 165 = .ok (.ishr, 1) := by decide +kernel
theorem dL_act_166 : decode cL_act 166 = .ok (.bipush 30, 2) := by decide +kernel
theorem dL_act_168 : decode cL_act 168 = .ok (.invokestatic 34, 3) := by decide +kernel
theorem dL_act_171 : decode cL_act 171 = .ok (.iadd, 1) := by decide +kernel
theorem dL_act_172 : decode cL_act 172 = .ok (.invokevirtual 39, 3) := by decide +kernel
theorem dL_act_175 : decode cL_act 175 = .ok (.ireturn, 1) := by decide +kernel
theorem dL_act_176 : decode cL_act 176 = .ok (.aload_n 0, 1) := by decide +kernel
theorem dL_act_177 : decode cL_act 177 = .ok (.iload_n 2, 1) := by decide +kernel
theorem dL_act_178 : decode cL_act 178 = .ok (.bipush 8, 2) := by decide +kernel
theorem dL_act_180 : decode cL_act 180 = .ok (.invokestatic 34, 3) := by decide +kernel
theorem dL_act_183 : decode cL_act 183 = .ok (.iload_n 1, 1) := by decide +kernel
theorem dL_act_184 : decode cL_act 184 = .ok (.iconst 5, 1) := by decide +kernel
theorem dL_act_185 : decode cL_act 185 = .ok (.ishr, 1) := by decide +kernel
theorem dL_act_186 : decode cL_act 186 = .ok (.bipush 32, 2) := by decide +kernel
theorem dL_act_188 : decode cL_act 188 = .ok (.invokestatic 34, 3) := by decide +kernel
theorem dL_act_191 : decode cL_act 191 = .ok (.invokevirtual 43, 3) := by decide +kernel
theorem dL_act_194 : decode cL_act 194 = .ok (.ireturn, 1) := by decide +kernel
theorem dL_act_195 : decode cL_act 195 = .ok (.aload_n 0, 1) := by decide +kernel
theorem dL_act_196 : decode cL_act 196 = .ok (.iload_n 2, 1) := by decide +kernel
theorem dL_act_197 : decode cL_act 197 = .ok (.iconst 3, 1) := by decide +kernel
theorem dL_act_198 : decode cL_act 198 = .ok (.invokestatic 34, 3) := by decide +kernel
theorem dL_act_201 : decode cL_act 201 = .ok (.iload_n 1, 1) := by decide +kernel
theorem dL_act_202 : decode cL_act 202 = .ok (.iconst 3, 1) := by decide +kernel
theorem dL_act_203 : decode cL_act 203 = .ok (.ishr, 1) := by decide +kernel
theorem dL_act_204 : decode cL_act 204 = .ok (.sipush 1100, 3) := by decide +kernel
theorem dL_act_207 : decode cL_act 207 = .ok (.invokestatic 34, 3) := by decide +kernel
theorem dL_act_210 : decode cL_act 210 = .ok (.invokevirtual 46, 3) := by decide +kernel
theorem dL_act_213 : decode cL_act 213 = .ok (.ireturn, 1) := by decide +kernel
theorem dL_act_214 : decode cL_act 214 = .ok (.aload_n 0, 1) := by decide +kernel
theorem dL_act_215 : decode cL_act 215 = .ok (.iload_n 2, 1) := by decide +kernel
theorem dL_act_216 : decode cL_act 216 = .ok (.bipush 10, 2) := by decide +kernel
theorem dL_act_218 : decode cL_act 218 = .ok (.invokestatic 34, 3) := by decide +kernel
theorem dL_act_221 : decode cL_act 221 = .ok (.iload_n 1, 1) := by decide +kernel
theorem dL_act_222 : decode cL_act 222 = .ok (.iconst 5, 1) := by decide +kernel
theorem dL_act_223 : decode cL_act 223 = .ok (.ishr, 1) := by decide +kernel
theorem dL_act_224 : decode cL_act 224 = .ok (.bipush 8, 2) := by decide +kernel
theorem dL_act_226 : decode cL_act 226 = .ok (.invokestatic 34, 3) := by decide +kernel
theorem dL_act_229 : decode cL_act 229 = .ok (.iload_n 1, 1) := by decide +kernel
theorem dL_act_230 : decode cL_act 230 = .ok (.bipush 7, 2) := by decide +kernel
theorem dL_act_232 : decode cL_act 232 = .ok (.ishr, 1) := by decide +kernel
theorem dL_act_233 : decode cL_act 233 = .ok (.iconst 5, 1) := by decide +kernel
theorem dL_act_234 : decode cL_act 234 = .ok (.invokestatic 34, 3) := by decide +kernel
theorem dL_act_237 : decode cL_act 237 = .ok (.invokevirtual 49, 3) := by decide +kernel
theorem dL_act_240 : decode cL_act 240 = .ok (.ireturn, 1) := by decide +kernel
theorem dL_act_241 : decode cL_act 241 = .ok (.aload_n 0, 1) := by decide +kernel
theorem dL_act_242 : decode cL_act 242 = .ok (.iload_n 2, 1) := by decide +kernel
theorem dL_act_243 : decode cL_act 243 = .ok (.bipush 6, 2) := by decide +kernel
theorem dL_act_245 : decode cL_act 245 = .ok (.invokestatic 34, 3) := by decide +kernel
theorem dL_act_248 : decode cL_act 248 = .ok (.invokevirtual 53, 3) := by decide +kernel
theorem dL_act_251 : decode cL_act 251 = .ok (.ireturn, 1) := by decide +kernel
theorem dL_act_252 : decode cL_act 252 = .ok (.aload_n 0, 1) := by decide +kernel
theorem dL_act_253 : decode cL_act 253 = .ok (.iload_n 2, 1) := by decide +kernel
theorem dL_act_254 : decode cL_act 254 = .ok (.bipush 6, 2) := by decide +kernel
theorem dL_act_256 : decode cL_act 256 = .ok (.invokestatic 34, 3) := by decide +kernel
theorem dL_act_259 : decode cL_act 259 = .ok (.iload_n 1, 1) := by decide +kernel
theorem dL_act_260 : decode cL_act 260 = .ok (.bipush 6, 2) := by decide +kernel
theorem dL_act_262 : decode cL_act 262 = .ok (.ishr, 1) := by decide +kernel
theorem dL_act_263 : decode cL_act 263 = .ok (.bipush 9, 2) := by decide +kernel
theorem dL_act_265 : decode cL_act 265 = .ok (.invokestatic 34, 3) := by decide +kernel
theorem dL_act_268 : decode cL_act 268 = .ok (.invokevirtual 56, 3) := by decide +kernel
theorem dL_act_271 : decode cL_act 271 = .ok (.ireturn, 1) := by decide +kernel
theorem dL_act_272 : decode cL_act 272 = .ok (.aload_n 0, 1) := by decide +kernel
theorem dL_act_273 : decode cL_act 273 = .ok (.iload_n 2, 1) := by decide +kernel
theorem dL_act_274 : decode cL_act 274 = .ok (.iconst 4, 1) := by decide +kernel
theorem dL_act_275 : decode cL_act 275 = .ok (.invokestatic 34, 3) := by decide +kernel
theorem dL_act_278 : decode cL_act 278 = .ok (.invokevirtual 59, 3) := by decide +kernel
theorem dL_act_281 : decode cL_act 281 = .ok (.ireturn, 1) := by decide +kernel
theorem dL_act_282 : decode cL_act 282 = .ok (.aload_n 0, 1) := by decide +kernel
theorem dL_act_283 : decode cL_act 283 = .ok (.iconst 1, 1) := by decide +kernel
theorem dL_act_284 : decode cL_act 284 = .ok (.iload_n 2, 1) := by decide +kernel
theorem dL_act_285 : decode cL_act 285 = .ok (.bipush 50, 2) := by decide +kernel
theorem dL_act_287 : decode cL_act 287 = .ok (.invokestatic 34, 3) := by decide +kernel
theorem dL_act_290 : decode cL_act 290 = .ok (.iadd, 1) := by decide +kernel
theorem dL_act_291 : decode cL_act 291 = .ok (.invokevirtual 62, 3) := by decide +kernel
theorem dL_act_294 : decode cL_act 294 = .ok (.ireturn, 1) := by decide +kernel
theorem dL_act_295 : decode cL_act 295 = .ok (.iload_n 1, 1) := by decide +kernel
theorem dL_act_296 : decode cL_act 296 = .ok (.sipush 512, 3) := by decide +kernel
theorem dL_act_299 : decode cL_act 299 = .ok (.iand, 1) := by decide +kernel
theorem dL_act_300 : decode cL_act 300 = .ok (.ifCond .eq 15, 3) := by decide +kernel
theorem dL_act_303 : decode cL_act 303 = .ok (.aload_n 0, 1) := by decide +kernel
theorem dL_act_304 : decode cL_act 304 = .ok (.iload_n 2, 1) := by decide +kernel
theorem dL_act_305 : decode cL_act 305 = .ok (.iconst 2, 1) := by decide +kernel
theorem dL_act_306 : decode cL_act 306 = .ok (.invokestatic 34, 3) := by decide +kernel
theorem dL_act_309 : decode cL_act 309 = .ok (.invokevirtual 65, 3) := by decide +kernel
theorem dL_act_312 : decode cL_act 312 = .ok (.goto 12, 3) := by decide +kernel
theorem dL_act_315 : decode cL_act 315 = .ok (.aload_n 0, 1) := by decide +kernel
theorem dL_act_316 : decode cL_act 316 = .ok (.iload_n 2, 1) := by decide +kernel
theorem dL_act_317 : decode cL_act 317 = .ok (.iconst 2, 1) := by decide +kernel
theorem dL_act_318 : decode cL_act 318 = .ok (.invokestatic 34, 3) := by decide +kernel
theorem dL_act_321 : decode cL_act 321 = .ok (.invokevirtual 68, 3) := by decide +kernel
theorem dL_act_324 : decode cL_act 324 = .ok (.ireturn, 1) := by decide +kernel
theorem dL_act_325 : decode cL_act 325 = .ok (.aload_n 0, 1) := by decide +kernel
theorem dL_act_326 : decode cL_act 326 = .ok (.iconst 1, 1) := by decide +kernel
theorem dL_act_327 : decode cL_act 327 = .ok (.iload_n 2, 1) := by decide +kernel
theorem dL_act_328 : decode cL_act 328 = .ok (.iconst 3, 1) := by decide +kernel
theorem dL_act_329 : decode cL_act 329 = .ok (.invokestatic 34, 3) := by decide +kernel
theorem dL_act_332 : decode cL_act 332 = .ok (.iadd, 1) := by decide +kernel
theorem dL_act_333 : decode cL_act 333 = .ok (.invokevirtual 71, 3) := by decide +kernel
theorem dL_act_336 : decode cL_act 336 = .ok (.ireturn, 1) := by decide +kernel
theorem dL_size_0 : decode cL_size 0 = .ok (.iload_n 0, 1) := by decide +kernel
theorem dL_size_1 : decode cL_size 1 = .ok (.ifCond .ge 8, 3) := by decide +kernel
theorem dL_size_4 : decode cL_size 4 = .ok (.iload_n 0, 1) := by decide +kernel
theorem dL_size_5 : decode cL_size 5 = .ok (.ineg, 1) := by decide +kernel
theorem dL_size_6 : decode cL_size 6 = .ok (.goto 4, 3) := by decide +kernel
theorem dL_size_9 : decode cL_size 9 = .ok (.iload_n 0, 1) := by decide +kernel
theorem dL_size_10 : decode cL_size 10 = .ok (.ireturn, 1) := by decide +kernel
set_option maxRecDepth 20000 in
theorem ggL_isRight_X10_count : GoodIn wsL_isRight wsX10_count := goodIn_r _ [6, 7, 8, 9, 10, 11, 12, 13, 14, 15, 16, 17, 18, 19, 20, 21, 22, 23, 24, 25, 26, 27, 28, 29, 30, 31, 32, 33, 34, 35, 36, 37, 38, 39, 40, 41, 42, 43, 44, 45, 46, 47, 48, 49, 50, 51, 52, 53, 54, 55, 56, 57, 58, 59, 266, 267, 268, 269, 270, 271, 272, 273, 274, 275, 276, 277, 278, 279, 280, 281, 282, 283, 284, 285, 286, 287, 288, 289, 290, 291, 292, 293, 294, 295, 296, 297, 298] (by decide +kernel) (by decide +kernel)
set_option maxRecDepth 20000 in
theorem gL_isRight_X10_count : GoodIn wsL_isRight (wsV RL 12 RX10 yX10_count wsX10_count) := goodIn_app (goodIn_of _ (by decide +kernel)) ggL_isRight_X10_count
set_option maxRecDepth 20000 in
theorem ggL_isRight_X10_entry : GoodIn wsL_isRight wsX10_entry := goodIn_r _ [63, 17, 7, 8, 64, 65, 66, 67, 5, 68, 69, 70, 71, 72, 9, 73, 25, 26, 27, 28, 29, 30, 266, 267, 268, 269, 270, 271, 272, 273, 274, 275, 276, 277, 278, 279, 280, 281, 282, 295, 296] (by decide +kernel) (by decide +kernel)
set_option maxRecDepth 20000 in
theorem gL_isRight_X10_entry : GoodIn wsL_isRight (wsV RL 22 RX10 yX10_entry wsX10_entry) := goodIn_app (goodIn_of _ (by decide +kernel)) ggL_isRight_X10_entry
set_option maxRecDepth 20000 in
theorem ggL_isRight_X10_would : GoodIn wsL_isRight wsX10_would := goodIn_r _ [77, 17, 7, 8, 78, 79, 80, 69, 70, 71, 5, 72, 9, 66, 67, 68, 81, 82, 83, 84, 85, 86, 87, 88, 89, 18, 19, 20, 21, 22, 23, 24, 25, 26, 27, 28, 29, 30, 90, 91, 92, 93, 94, 95, 96, 97, 98, 99, 100, 101, 102, 103, 104, 105, 106, 107, 108, 109, 110, 111, 112, 34, 113, 59, 37, 114, 115, 116, 117, 118, 119, 120, 121, 122, 123, 124, 32, 33, 35, 36, 125, 126, 127, 128, 129, 130, 131, 132, 133, 134, 135, 136, 137, 138, 139, 140, 141, 142, 143, 144, 145, 146, 147, 266, 267, 268, 269, 270, 271, 272, 273, 274, 275, 276, 277, 278, 299, 300, 301, 302, 303, 279, 280, 281, 282, 295, 296] (by decide +kernel) (by decide +kernel)
set_option maxRecDepth 20000 in
theorem gL_isRight_X10_would : GoodIn wsL_isRight (wsV RL 74 RX10 yX10_would wsX10_would) := goodIn_app (goodIn_of _ (by decide +kernel)) ggL_isRight_X10_would
set_option maxRecDepth 20000 in
theorem ggL_isRight_X10_why : GoodIn wsL_isRight wsX10_why := goodIn_r _ [151, 17, 7, 8, 78, 80, 152, 153, 69, 70, 71, 5, 72, 9, 66, 67, 68, 81, 82, 83, 84, 85, 86, 87, 88, 89, 18, 19, 20, 21, 22, 23, 24, 25, 26, 27, 28, 29, 30, 90, 91, 92, 93, 94, 95, 96, 97, 98, 99, 100, 101, 102, 103, 104, 105, 106, 107, 108, 109, 110, 111, 112, 34, 113, 59, 37, 114, 115, 116, 117, 118, 119, 120, 121, 122, 123, 124, 32, 33, 35, 36, 125, 126, 127, 128, 129, 130, 131, 132, 133, 134, 135, 136, 137, 138, 139, 140, 141, 142, 143, 144, 145, 146, 147, 154, 266, 267, 268, 269, 270, 271, 272, 273, 274, 275, 276, 277, 278, 299, 300, 301, 302, 303, 279, 280, 281, 282, 295, 296] (by decide +kernel) (by decide +kernel)
set_option maxRecDepth 20000 in
theorem gL_isRight_X10_why : GoodIn wsL_isRight (wsV RL 77 RX10 yX10_why wsX10_why) := goodIn_app (goodIn_of _ (by decide +kernel)) ggL_isRight_X10_why
set_option maxRecDepth 20000 in
theorem ggL_isRight_X10_channel : GoodIn wsL_isRight wsX10_channel := goodIn_r _ [158, 17, 7, 159, 8, 160, 161, 162, 5, 163, 66, 67, 68, 73, 25, 26, 27, 28, 29, 30, 164, 165, 166, 21, 167, 168, 169, 170, 24, 171, 32, 33, 34, 35, 36, 37, 172, 126, 127, 128, 173, 174, 175, 176, 49, 54, 266, 267, 268, 269, 270, 271, 272, 273, 274, 275, 276, 277, 278, 279, 280, 281, 282, 295, 296] (by decide +kernel) (by decide +kernel)
set_option maxRecDepth 20000 in
theorem gL_isRight_X10_channel : GoodIn wsL_isRight (wsV RL 18 RX10 yX10_channel wsX10_channel) := goodIn_app (goodIn_of _ (by decide +kernel)) ggL_isRight_X10_channel
set_option maxRecDepth 20000 in
theorem ggL_isRight_L_size : GoodIn wsL_isRight wsL_size := goodIn_r _ [180] (by decide +kernel) (by decide +kernel)
set_option maxRecDepth 20000 in
theorem gL_isRight_L_size : GoodIn wsL_isRight (va_wsS RL 80 yL_size wsL_size) := goodIn_app (goodIn_of _ (by decide +kernel)) ggL_isRight_L_size
set_option maxRecDepth 20000 in
theorem ggL_isRight_X10_settleFor : GoodIn wsL_isRight wsX10_settleFor := goodIn_r _ [184, 17, 7, 8, 78, 152, 185, 64, 86, 87, 88, 89, 65, 69, 70, 71, 5, 72, 9, 66, 67, 68, 81, 82, 83, 84, 85, 80, 18, 19, 20, 21, 22, 23, 24, 25, 26, 27, 28, 29, 30, 90, 91, 92, 93, 94, 95, 96, 97, 98, 99, 100, 101, 102, 103, 104, 105, 106, 107, 108, 109, 110, 111, 112, 34, 113, 59, 37, 114, 115, 116, 117, 118, 119, 120, 121, 122, 123, 124, 32, 33, 35, 36, 125, 126, 127, 128, 129, 130, 131, 132, 133, 134, 135, 136, 137, 138, 139, 140, 141, 142, 143, 73, 186, 144, 145, 146, 147, 266, 267, 268, 269, 270, 271, 272, 273, 274, 275, 276, 277, 278, 299, 300, 301, 302, 303, 279, 280, 281, 282, 295, 296] (by decide +kernel) (by decide +kernel)
set_option maxRecDepth 20000 in
theorem gL_isRight_X10_settleFor : GoodIn wsL_isRight (wsV RL 83 RX10 yX10_settleFor wsX10_settleFor) := goodIn_app (goodIn_of _ (by decide +kernel)) ggL_isRight_X10_settleFor
set_option maxRecDepth 20000 in
theorem ggL_isRight_X10_value : GoodIn wsL_isRight wsX10_value := goodIn_r _ [190, 17, 7, 8, 161, 162, 5, 163, 66, 67, 68, 191, 115, 116, 34, 117, 59, 118, 119, 88, 120, 121, 122, 123, 124, 32, 33, 35, 36, 37, 25, 26, 27, 28, 29, 30, 125, 126, 127, 128, 129, 130, 131, 266, 267, 268, 269, 270, 271, 272, 273, 274, 275, 276, 277, 278, 279, 280, 281, 282, 295, 296] (by decide +kernel) (by decide +kernel)
set_option maxRecDepth 20000 in
theorem gL_isRight_X10_value : GoodIn wsL_isRight (wsV RL 86 RX10 yX10_value wsX10_value) := goodIn_app (goodIn_of _ (by decide +kernel)) ggL_isRight_X10_value
set_option maxRecDepth 20000 in
theorem ggL_isRight_X10_sample : GoodIn wsL_isRight wsX10_sample := goodIn_r _ [195, 17, 7, 10, 11, 65, 66, 67, 5, 68, 196, 197, 198, 199, 200, 201, 202, 203, 204, 127, 205, 206, 25, 26, 27, 28, 29, 30, 266, 267, 268, 269, 270, 271, 272, 273, 274, 275, 276, 277, 278, 283, 284, 285, 295, 296] (by decide +kernel) (by decide +kernel)
set_option maxRecDepth 20000 in
theorem gL_isRight_X10_sample : GoodIn wsL_isRight (wsV RL 25 RX10 yX10_sample wsX10_sample) := goodIn_app (goodIn_of _ (by decide +kernel)) ggL_isRight_X10_sample
set_option maxRecDepth 20000 in
theorem ggL_isRight_X10_account : GoodIn wsL_isRight wsX10_account := goodIn_r _ [210, 7, 211, 17, 18, 19, 20, 21, 22, 23, 24, 25, 26, 27, 28, 29, 30, 66, 67, 5, 68, 73, 266, 267, 268, 269, 270, 271, 272, 273, 274, 275, 276, 277, 278, 295, 296] (by decide +kernel) (by decide +kernel)
set_option maxRecDepth 20000 in
theorem gL_isRight_X10_account : GoodIn wsL_isRight (wsV RL 28 RX10 yX10_account wsX10_account) := goodIn_app (goodIn_of _ (by decide +kernel)) ggL_isRight_X10_account
set_option maxRecDepth 20000 in
theorem ggL_isRight_X10_groundsNeeded : GoodIn wsL_isRight wsX10_groundsNeeded := goodIn_r _ [215, 78, 7, 85, 8, 9, 152, 185, 80, 18, 19, 20, 21, 22, 23, 24, 25, 26, 27, 28, 29, 30, 90, 91, 92, 93, 94, 95, 96, 97, 98, 99, 100, 101, 102, 103, 104, 105, 106, 107, 108, 109, 110, 111, 112, 34, 113, 59, 37, 114, 115, 116, 117, 118, 119, 88, 120, 121, 122, 123, 124, 32, 33, 35, 36, 125, 126, 127, 128, 129, 130, 131, 132, 133, 134, 135, 136, 137, 138, 139, 5, 140, 141, 142, 143, 186, 266, 267, 268, 269, 270, 271, 272, 273, 274, 275, 276, 277, 278, 279, 280, 281, 282, 299, 300, 301, 302, 303, 295, 296] (by decide +kernel) (by decide +kernel)
set_option maxRecDepth 20000 in
theorem gL_isRight_X10_groundsNeeded : GoodIn wsL_isRight (wsV RL 90 RX10 yX10_groundsNeeded wsX10_groundsNeeded) := goodIn_app (goodIn_of _ (by decide +kernel)) ggL_isRight_X10_groundsNeeded
set_option maxRecDepth 20000 in
theorem ggL_isRight_X10_bestRule : GoodIn wsL_isRight wsX10_bestRule := goodIn_r _ [219, 7, 8, 9, 220, 221, 81, 82, 83, 5, 84, 78, 85, 80, 86, 87, 88, 89, 18, 19, 20, 21, 22, 23, 24, 25, 26, 27, 28, 29, 30, 90, 91, 92, 93, 94, 95, 96, 97, 98, 99, 100, 101, 102, 103, 104, 105, 106, 107, 108, 109, 110, 111, 112, 34, 113, 59, 37, 114, 115, 116, 117, 118, 119, 120, 121, 122, 123, 124, 32, 33, 35, 36, 125, 126, 127, 128, 129, 130, 131, 132, 133, 134, 135, 136, 137, 138, 139, 140, 141, 142, 143, 222, 223, 224, 225, 54, 49, 226, 227, 228, 229, 230, 231, 232, 233, 234, 235, 236, 237, 238, 239, 240, 241, 242, 243, 244, 245, 246, 247, 248, 249, 250, 251, 252, 253, 254, 255, 256, 257, 258, 259, 260, 261, 262, 263, 264, 265, 266, 267, 268, 269, 270, 271, 272, 273, 274, 275, 276, 277, 278, 279, 280, 281, 282, 299, 300, 301, 302, 303, 295, 296, 304, 305, 306] (by decide +kernel) (by decide +kernel)
set_option maxRecDepth 20000 in
theorem gL_isRight_X10_bestRule : GoodIn wsL_isRight (wsV RL 94 RX10 yX10_bestRule wsX10_bestRule) := goodIn_app (goodIn_of _ (by decide +kernel)) ggL_isRight_X10_bestRule
theorem dL_isRight_0 : decode cL_isRight 0 = .ok (.aload_n 0, 1) := by decide +kernel
theorem dL_isRight_1 : decode cL_isRight 1 = .ok (.iconst 1, 1) := by decide +kernel
theorem dL_isRight_2 : decode cL_isRight 2 = .ok (.invokevirtual 12, 3) := by decide +kernel
theorem dL_isRight_5 : decode cL_isRight 5 = .ok (.istore_n 1, 1) := by decide +kernel
theorem dL_isRight_6 : decode cL_isRight 6 = .ok (.iconst 0, 1) := by decide +kernel
theorem dL_isRight_7 : decode cL_isRight 7 = .ok (.istore_n 2, 1) := by decide +kernel
theorem dL_isRight_8 : decode cL_isRight 8 = .ok (.iconst 0, 1) := by decide +kernel
theorem dL_isRight_9 : decode cL_isRight 9 = .ok (.istore_n 3, 1) := by decide +kernel
theorem dL_isRight_10 : decode cL_isRight 10 = .ok (.iconst 0, 1) := by decide +kernel
theorem dL_isRight_11 : decode cL_isRight 11 = .ok (.istore 4, 2) := by decide +kernel
theorem dL_isRight_13 : decode cL_isRight 13 = .ok (.iload 4, 2) := by decide +kernel
theorem dL_isRight_15 : decode cL_isRight 15 = .ok (.iload_n 1, 1) := by decide +kernel
theorem dL_isRight_16 : decode cL_isRight 16 = .ok (.if_icmp .ge 240, 3) := by decide +kernel
theorem dL_isRight_19 : decode cL_isRight 19 = .ok (.iload_n 2, 1) := by decide +kernel
theorem dL_isRight_20 : decode cL_isRight 20 = .ok (.aload_n 0, 1) := by decide +kernel
theorem dL_isRight_21 : decode cL_isRight 21 = .ok (.iload 4, 2) := by decide +kernel
theorem dL_isRight_23 : decode cL_isRight 23 = .ok (.iconst 1, 1) := by decide +kernel
theorem dL_isRight_24 : decode cL_isRight 24 = .ok (.invokevirtual 22, 3) := by decide +kernel
theorem dL_isRight_27 : decode cL_isRight 27 = .ok (.iconst 1, 1) := by decide +kernel
theorem dL_isRight_28 : decode cL_isRight 28 = .ok (.iadd, 1) := by decide +kernel
theorem dL_isRight_29 : decode cL_isRight 29 = .ok (.iadd, 1) := by decide +kernel
theorem dL_isRight_30 : decode cL_isRight 30 = .ok (.istore_n 2, 1) := by decide +kernel
theorem dL_isRight_31 : decode cL_isRight 31 = .ok (.aload_n 0, 1) := by decide +kernel
theorem dL_isRight_32 : decode cL_isRight 32 = .ok (.iload 4, 2) := by decide +kernel
theorem dL_isRight_34 : decode cL_isRight 34 = .ok (.iconst 2, 1) := by decide +kernel
theorem dL_isRight_35 : decode cL_isRight 35 = .ok (.invokevirtual 74, 3) := by decide +kernel
theorem dL_isRight_38 : decode cL_isRight 38 = .ok (.istore 5, 2) := by decide +kernel
theorem dL_isRight_40 : decode cL_isRight 40 = .ok (.aload_n 0, 1) := by decide +kernel
theorem dL_isRight_41 : decode cL_isRight 41 = .ok (.iload 4, 2) := by decide +kernel
theorem dL_isRight_43 : decode cL_isRight 43 = .ok (.iconst 1, 1) := by decide +kernel
theorem dL_isRight_44 : decode cL_isRight 44 = .ok (.invokevirtual 74, 3) := by decide +kernel
theorem dL_isRight_47 : decode cL_isRight 47 = .ok (.istore 6, 2) := by decide +kernel
theorem dL_isRight_49 : decode cL_isRight 49 = .ok (.aload_n 0, 1) := by decide +kernel
theorem dL_isRight_50 : decode cL_isRight 50 = .ok (.iload 4, 2) := by decide +kernel
theorem dL_isRight_52 : decode cL_isRight 52 = .ok (.iconst 0, 1) := by decide +kernel
theorem dL_isRight_53 : decode cL_isRight 53 = .ok (.invokevirtual 74, 3) := by decide +kernel
theorem dL_isRight_56 : decode cL_isRight 56 = .ok (.istore 7, 2) := by decide +kernel
theorem dL_isRight_58 : decode cL_isRight 58 = .ok (.aload_n 0, 1) := by decide +kernel
theorem dL_isRight_59 : decode cL_isRight 59 = .ok (.iload 4, 2) := by decide +kernel
theorem dL_isRight_61 : decode cL_isRight 61 = .ok (.invokevirtual 77, 3) := by decide +kernel
theorem dL_isRight_64 : decode cL_isRight 64 = .ok (.istore 8, 2) := by decide +kernel
theorem dL_isRight_66 : decode cL_isRight 66 = .ok (.iload 7, 2) := by decide +kernel
theorem dL_isRight_68 : decode cL_isRight 68 = .ok (.ifCond .lt 67, 3) := by decide +kernel
theorem dL_isRight_71 : decode cL_isRight 71 = .ok (.iload 7, 2) := by decide +kernel
theorem dL_isRight_73 : decode cL_isRight 73 = .ok (.sipush 4095, 3) := by decide +kernel
theorem dL_isRight_76 : decode cL_isRight 76 = .ok (.if_icmp .gt 59, 3) := by decide +kernel
theorem dL_isRight_79 : decode cL_isRight 79 = .ok (.iload 8, 2) := by decide +kernel
theorem dL_isRight_81 : decode cL_isRight 81 = .ok (.ifCond .ne 7, 3) := by decide +kernel
theorem dL_isRight_84 : decode cL_isRight 84 = .ok (.iconst 1, 1) := by decide +kernel
theorem dL_isRight_85 : decode cL_isRight 85 = .ok (.goto 4, 3) := by decide +kernel
theorem dL_isRight_88 : decode cL_isRight 88 = .ok (.iconst 0, 1) := by decide +kernel
theorem dL_isRight_89 : decode cL_isRight 89 = .ok (.iload 5, 2) := by decide +kernel
theorem dL_isRight_91 : decode cL_isRight 91 = .ok (.ifCond .ne 7, 3) := by decide +kernel
theorem dL_isRight_94 : decode cL_isRight 94 = .ok (.iconst 1, 1) := by decide +kernel
theorem dL_isRight_95 : decode cL_isRight 95 = .ok (.goto 4, 3) := by decide +kernel
theorem dL_isRight_98 : decode cL_isRight 98 = .ok (.iconst 0, 1) := by decide +kernel
theorem dL_isRight_99 : decode cL_isRight 99 = .ok (.if_icmp .ne 36, 3) := by decide +kernel
theorem dL_isRight_102 : decode cL_isRight 102 = .ok (.iload 8, 2) := by decide +kernel
theorem dL_isRight_104 : decode cL_isRight 104 = .ok (.iconst 1, 1) := by decide +kernel
theorem dL_isRight_105 : decode cL_isRight 105 = .ok (.if_icmp .ne 8, 3) := by decide +kernel
theorem dL_isRight_108 : decode cL_isRight 108 = .ok (.iload 6, 2) := by decide +kernel
theorem dL_isRight_110 : decode cL_isRight 110 = .ok (.ifCond .le 25, 3) := by decide +kernel
theorem dL_isRight_113 : decode cL_isRight 113 = .ok (.iload 8, 2) := by decide +kernel
theorem dL_isRight_115 : decode cL_isRight 115 = .ok (.iconst 2, 1) := by decide +kernel
theorem dL_isRight_116 : decode cL_isRight 116 = .ok (.if_icmp .ne 8, 3) := by decide +kernel
theorem dL_isRight_119 : decode cL_isRight 119 = .ok (.iload 6, 2) := by decide +kernel
theorem dL_isRight_121 : decode cL_isRight 121 = .ok (.ifCond .ge 14, 3) := by decide +kernel
theorem dL_isRight_124 : decode cL_isRight 124 = .ok (.iload 8, 2) := by decide +kernel
theorem dL_isRight_126 : decode cL_isRight 126 = .ok (.iconst 2, 1) := by decide +kernel
theorem dL_isRight_127 : decode cL_isRight 127 = .ok (.if_icmp .le 10, 3) := by decide +kernel
theorem dL_isRight_130 : decode cL_isRight 130 = .ok (.iload 6, 2) := by decide +kernel
theorem dL_isRight_132 : decode cL_isRight 132 = .ok (.ifCond .eq 5, 3) := by decide +kernel
theorem dL_isRight_135 : decode cL_isRight 135 = .ok (.iconst 0, 1) := by decide +kernel
theorem dL_isRight_136 : decode cL_isRight 136 = .ok (.ireturn, 1) := by decide +kernel
theorem dL_isRight_137 : decode cL_isRight 137 = .ok (.aload_n 0, 1) := by decide +kernel
theorem dL_isRight_138 : decode cL_isRight 138 = .ok (.iload 4, 2) := by decide +kernel
theorem dL_isRight_140 : decode cL_isRight 140 = .ok (.iconst 0, 1) := by decide +kernel
theorem dL_isRight_141 : decode cL_isRight 141 = .ok (.invokevirtual 22, 3) := by decide +kernel
theorem dL_isRight_144 : decode cL_isRight 144 = .ok (.istore 9, 2) := by decide +kernel
theorem dL_isRight_146 : decode cL_isRight 146 = .ok (.iload 9, 2) := by decide +kernel
theorem dL_isRight_148 : decode cL_isRight 148 = .ok (.bipush 7, 2) := by decide +kernel
theorem dL_isRight_150 : decode cL_isRight 150 = .ok (.if_icmp .gt 22, 3) := by decide +kernel
theorem dL_isRight_153 : decode cL_isRight 153 = .ok (.iload 4, 2) := by decide +kernel
theorem dL_isRight_155 : decode cL_isRight 155 = .ok (.ifCond .le 21, 3) := by decide +kernel
theorem dL_isRight_158 : decode cL_isRight 158 = .ok (.aload_n 0, 1) := by decide +kernel
theorem dL_isRight_159 : decode cL_isRight 159 = .ok (.iload 4, 2) := by decide +kernel
theorem dL_isRight_161 : decode cL_isRight 161 = .ok (.iconst 1, 1) := by decide +kernel
theorem dL_isRight_162 : decode cL_isRight 162 = .ok (.isub, 1) := by decide +kernel
theorem dL_isRight_163 : decode cL_isRight 163 = .ok (.iconst 0, 1) := by decide +kernel
theorem dL_isRight_164 : decode cL_isRight 164 = .ok (.invokevirtual 22, 3) := by decide +kernel
theorem dL_isRight_167 : decode cL_isRight 167 = .ok (.bipush 8, 2) := by decide +kernel
theorem dL_isRight_169 : decode cL_isRight 169 = .ok (.if_icmp .ne 7, 3) := by decide +kernel
theorem dL_isRight_172 : decode cL_isRight 172 = .ok (.iconst 1, 1) := by decide +kernel
theorem dL_isRight_173 : decode cL_isRight 173 = .ok (.goto 4, 3) := by decide +kernel
theorem dL_isRight_176 : decode cL_isRight 176 = .ok (.iconst 0, 1) := by decide +kernel
theorem dL_isRight_177 : decode cL_isRight 177 = .ok (.istore 10, 2) := by decide +kernel
theorem dL_isRight_179 : decode cL_isRight 179 = .ok (.iload 10, 2) := by decide +kernel
theorem dL_isRight_181 : decode cL_isRight 181 = .ok (.ifCond .ne 20, 3) := by decide +kernel
theorem dL_isRight_184 : decode cL_isRight 184 = .ok (.iload 9, 2) := by decide +kernel
theorem dL_isRight_186 : decode cL_isRight 186 = .ok (.bipush 8, 2) := by decide +kernel
theorem dL_isRight_188 : decode cL_isRight 188 = .ok (.if_icmp .ge 17, 3) := by decide +kernel
theorem dL_isRight_191 : decode cL_isRight 191 = .ok (.aload_n 0, 1) := by decide +kernel
theorem dL_isRight_192 : decode cL_isRight 192 = .ok (.iload 9, 2) := by decide +kernel
theorem dL_isRight_194 : decode cL_isRight 194 = .ok (.iconst 4, 1) := by decide +kernel
theorem dL_isRight_195 : decode cL_isRight 195 = .ok (.invokevirtual 18, 3) := by decide +kernel
theorem dL_isRight_198 : decode cL_isRight 198 = .ok (.ifCond .ne 7, 3) := by decide +kernel
theorem dL_isRight_201 : decode cL_isRight 201 = .ok (.iconst 1, 1) := by decide +kernel
theorem dL_isRight_202 : decode cL_isRight 202 = .ok (.goto 4, 3) := by decide +kernel
theorem dL_isRight_205 : decode cL_isRight 205 = .ok (.iconst 0, 1) := by decide +kernel
theorem dL_isRight_206 : decode cL_isRight 206 = .ok (.istore 10, 2) := by decide +kernel
theorem dL_isRight_208 : decode cL_isRight 208 = .ok (.aload_n 0, 1) := by decide +kernel
theorem dL_isRight_209 : decode cL_isRight 209 = .ok (.iload 4, 2) := by decide +kernel
theorem dL_isRight_211 : decode cL_isRight 211 = .ok (.iload 5, 2) := by decide +kernel
theorem dL_isRight_213 : decode cL_isRight 213 = .ok (.invokestatic 80, 3) := by decide +kernel
theorem dL_isRight_216 : decode cL_isRight 216 = .ok (.invokevirtual 83, 3) := by decide +kernel
theorem dL_isRight_219 : decode cL_isRight 219 = .ok (.istore 11, 2) := by decide +kernel
theorem dL_isRight_221 : decode cL_isRight 221 = .ok (.iload 10, 2) := by decide +kernel
theorem dL_isRight_223 : decode cL_isRight 223 = .ok (.ifCond .eq 8, 3) := by decide +kernel
theorem dL_isRight_226 : decode cL_isRight 226 = .ok (.iload 6, 2) := by decide +kernel
theorem dL_isRight_228 : decode cL_isRight 228 = .ok (.ifCond .ne 20, 3) := by decide +kernel
theorem dL_isRight_231 : decode cL_isRight 231 = .ok (.iload 11, 2) := by decide +kernel
theorem dL_isRight_233 : decode cL_isRight 233 = .ok (.ifCond .lt 15, 3) := by decide +kernel
theorem dL_isRight_236 : decode cL_isRight 236 = .ok (.iload 11, 2) := by decide +kernel
theorem dL_isRight_238 : decode cL_isRight 238 = .ok (.aload_n 0, 1) := by decide +kernel
theorem dL_isRight_239 : decode cL_isRight 239 = .ok (.iload 4, 2) := by decide +kernel
theorem dL_isRight_241 : decode cL_isRight 241 = .ok (.iconst 1, 1) := by decide +kernel
theorem dL_isRight_242 : decode cL_isRight 242 = .ok (.invokevirtual 22, 3) := by decide +kernel
theorem dL_isRight_245 : decode cL_isRight 245 = .ok (.if_icmp .le 5, 3) := by decide +kernel
theorem dL_isRight_248 : decode cL_isRight 248 = .ok (.iconst 0, 1) := by decide +kernel
theorem dL_isRight_249 : decode cL_isRight 249 = .ok (.ireturn, 1) := by decide +kernel
theorem dL_isRight_250 : decode cL_isRight 250 = .ok (.iinc 4 1, 3) := by decide +kernel
theorem dL_isRight_253 : decode cL_isRight 253 = .ok (.goto (-240), 3) := by decide +kernel
theorem dL_isRight_256 : decode cL_isRight 256 = .ok (.iconst 0, 1) := by decide +kernel
theorem dL_isRight_257 : decode cL_isRight 257 = .ok (.istore 4, 2) := by decide +kernel
theorem dL_isRight_259 : decode cL_isRight 259 = .ok (.iload 4, 2) := by decide +kernel
theorem dL_isRight_261 : decode cL_isRight 261 = .ok (.bipush 8, 2) := by decide +kernel
theorem dL_isRight_263 : decode cL_isRight 263 = .ok (.if_icmp .ge 71, 3) := by decide +kernel
theorem dL_isRight_266 : decode cL_isRight 266 = .ok (.iload_n 3, 1) := by decide +kernel
theorem dL_isRight_267 : decode cL_isRight 267 = .ok (.aload_n 0, 1) := by decide +kernel
theorem dL_isRight_268 : decode cL_isRight 268 = .ok (.iload 4, 2) := by decide +kernel
theorem dL_isRight_270 : decode cL_isRight 270 = .ok (.bipush 7, 2) := by decide +kernel
theorem dL_isRight_272 : decode cL_isRight 272 = .ok (.invokevirtual 18, 3) := by decide +kernel
theorem dL_isRight_275 : decode cL_isRight 275 = .ok (.iadd, 1) := by decide +kernel
theorem dL_isRight_276 : decode cL_isRight 276 = .ok (.istore_n 3, 1) := by decide +kernel
theorem dL_isRight_277 : decode cL_isRight 277 = .ok (.aload_n 0, 1) := by decide +kernel
theorem dL_isRight_278 : decode cL_isRight 278 = .ok (.iload 4, 2) := by decide +kernel
theorem dL_isRight_280 : decode cL_isRight 280 = .ok (.aload_n 0, 1) := by decide +kernel
theorem dL_isRight_281 : decode cL_isRight 281 = .ok (.iconst 0, 1) := by decide +kernel
theorem dL_isRight_282 : decode cL_isRight 282 = .ok (.invokevirtual 12, 3) := by decide +kernel
theorem dL_isRight_285 : decode cL_isRight 285 = .ok (.invokevirtual 86, 3) := by decide +kernel
theorem dL_isRight_288 : decode cL_isRight 288 = .ok (.istore 5, 2) := by decide +kernel
theorem dL_isRight_290 : decode cL_isRight 290 = .ok (.iload 5, 2) := by decide +kernel
theorem dL_isRight_292 : decode cL_isRight 292 = .ok (.ifCond .lt 34, 3) := by decide +kernel
theorem dL_isRight_295 : decode cL_isRight 295 = .ok (.iload 5, 2) := by decide +kernel
theorem dL_isRight_297 : decode cL_isRight 297 = .ok (.sipush 4095, 3) := by decide +kernel
theorem dL_isRight_300 : decode cL_isRight 300 = .ok (.if_icmp .gt 26, 3) := by decide +kernel
theorem dL_isRight_303 : decode cL_isRight 303 = .ok (.aload_n 0, 1) := by decide +kernel
theorem dL_isRight_304 : decode cL_isRight 304 = .ok (.iload 4, 2) := by decide +kernel
theorem dL_isRight_306 : decode cL_isRight 306 = .ok (.bipush 6, 2) := by decide +kernel
theorem dL_isRight_308 : decode cL_isRight 308 = .ok (.invokevirtual 18, 3) := by decide +kernel
theorem dL_isRight_311 : decode cL_isRight 311 = .ok (.ldc 89, 2) := by decide +kernel
theorem dL_isRight_313 : decode cL_isRight 313 = .ok (.if_icmp .eq 15, 3) := by decide +kernel
theorem dL_isRight_316 : decode cL_isRight 316 = .ok (.aload_n 0, 1) := by decide +kernel
theorem dL_isRight_317 : decode cL_isRight 317 = .ok (.iload 4, 2) := by decide +kernel
theorem dL_isRight_319 : decode cL_isRight 319 = .ok (.iconst 5, 1) := by decide +kernel
theorem dL_isRight_320 : decode cL_isRight 320 = .ok (.invokevirtual 18, 3) := by decide +kernel
theorem dL_isRight_323 : decode cL_isRight 323 = .ok (.ifCond .ge 5, 3) := by decide +kernel
theorem dL_isRight_326 : decode cL_isRight 326 = .ok (.iconst 0, 1) := by decide +kernel
theorem dL_isRight_327 : decode cL_isRight 327 = .ok (.ireturn, 1) := by decide +kernel
theorem dL_isRight_328 : decode cL_isRight 328 = .ok (.iinc 4 1, 3) := by decide +kernel
theorem dL_isRight_331 : decode cL_isRight 331 = .ok (.goto (-72), 3) := by decide +kernel
theorem dL_isRight_334 : decode cL_isRight 334 = .ok (.aload_n 0, 1) := by decide +kernel
theorem dL_isRight_335 : decode cL_isRight 335 = .ok (.iconst 5, 1) := by decide +kernel
theorem dL_isRight_336 : decode cL_isRight 336 = .ok (.invokevirtual 12, 3) := by decide +kernel
theorem dL_isRight_339 : decode cL_isRight 339 = .ok (.istore 4, 2) := by decide +kernel
theorem dL_isRight_341 : decode cL_isRight 341 = .ok (.iconst 1, 1) := by decide +kernel
theorem dL_isRight_342 : decode cL_isRight 342 = .ok (.istore 5, 2) := by decide +kernel
theorem dL_isRight_344 : decode cL_isRight 344 = .ok (.iload 5, 2) := by decide +kernel
theorem dL_isRight_346 : decode cL_isRight 346 = .ok (.iload 4, 2) := by decide +kernel
theorem dL_isRight_348 : decode cL_isRight 348 = .ok (.if_icmp .ge 30, 3) := by decide +kernel
theorem dL_isRight_351 : decode cL_isRight 351 = .ok (.aload_n 0, 1) := by decide +kernel
theorem dL_isRight_352 : decode cL_isRight 352 = .ok (.iload 5, 2) := by decide +kernel
theorem dL_isRight_354 : decode cL_isRight 354 = .ok (.iconst 1, 1) := by decide +kernel
theorem dL_isRight_355 : decode cL_isRight 355 = .ok (.invokevirtual 25, 3) := by decide +kernel
theorem dL_isRight_358 : decode cL_isRight 358 = .ok (.aload_n 0, 1) := by decide +kernel
theorem dL_isRight_359 : decode cL_isRight 359 = .ok (.iload 5, 2) := by decide +kernel
theorem dL_isRight_361 : decode cL_isRight 361 = .ok (.iconst 1, 1) := by decide +kernel
theorem dL_isRight_362 : decode cL_isRight 362 = .ok (.isub, 1) := by decide +kernel
theorem dL_isRight_363 : decode cL_isRight 363 = .ok (.iconst 1, 1) := by decide +kernel
theorem dL_isRight_364 : decode cL_isRight 364 = .ok (.invokevirtual 25, 3) := by decide +kernel
theorem dL_isRight_367 : decode cL_isRight 367 = .ok (.if_icmp .lt 5, 3) := by decide +kernel
theorem dL_isRight_370 : decode cL_isRight 370 = .ok (.iconst 0, 1) := by decide +kernel
theorem dL_isRight_371 : decode cL_isRight 371 = .ok (.ireturn, 1) := by decide +kernel
theorem dL_isRight_372 : decode cL_isRight 372 = .ok (.iinc 5 1, 3) := by decide +kernel
theorem dL_isRight_375 : decode cL_isRight 375 = .ok (.goto (-31), 3) := by decide +kernel
theorem dL_isRight_378 : decode cL_isRight 378 = .ok (.aload_n 0, 1) := by decide +kernel
theorem dL_isRight_379 : decode cL_isRight 379 = .ok (.iconst 0, 1) := by decide +kernel
theorem dL_isRight_380 : decode cL_isRight 380 = .ok (.invokevirtual 28, 3) := by decide +kernel
theorem dL_isRight_383 : decode cL_isRight 383 = .ok (.aload_n 0, 1) := by decide +kernel
theorem dL_isRight_384 : decode cL_isRight 384 = .ok (.iconst 1, 1) := by decide +kernel
theorem dL_isRight_385 : decode cL_isRight 385 = .ok (.invokevirtual 28, 3) := by decide +kernel
theorem dL_isRight_388 : decode cL_isRight 388 = .ok (.iadd, 1) := by decide +kernel
theorem dL_isRight_389 : decode cL_isRight 389 = .ok (.aload_n 0, 1) := by decide +kernel
theorem dL_isRight_390 : decode cL_isRight 390 = .ok (.iconst 2, 1) := by decide +kernel
theorem dL_isRight_391 : decode cL_isRight 391 = .ok (.invokevirtual 28, 3) := by decide +kernel
theorem dL_isRight_394 : decode cL_isRight 394 = .ok (.iadd, 1) := by decide +kernel
theorem dL_isRight_395 : decode cL_isRight 395 = .ok (.aload_n 0, 1) := by decide +kernel
theorem dL_isRight_396 : decode cL_isRight 396 = .ok (.iconst 3, 1) := by decide +kernel
theorem dL_isRight_397 : decode cL_isRight 397 = .ok (.invokevirtual 28, 3) := by decide +kernel
theorem dL_isRight_400 : decode cL_isRight 400 = .ok (.iadd, 1) := by decide +kernel
theorem dL_isRight_401 : decode cL_isRight 401 = .ok (.istore 5, 2) := by decide +kernel
theorem dL_isRight_403 : decode cL_isRight 403 = .ok (.iload 4, 2) := by decide +kernel
theorem dL_isRight_405 : decode cL_isRight 405 = .ok (.bipush 32, 2) := by decide +kernel
theorem dL_isRight_407 : decode cL_isRight 407 = .ok (.if_icmp .gt 46, 3) := by decide +kernel
theorem dL_isRight_410 : decode cL_isRight 410 = .ok (.aload_n 0, 1) := by decide +kernel
theorem dL_isRight_411 : decode cL_isRight 411 = .ok (.iconst 4, 1) := by decide +kernel
theorem dL_isRight_412 : decode cL_isRight 412 = .ok (.invokevirtual 28, 3) := by decide +kernel
theorem dL_isRight_415 : decode cL_isRight 415 = .ok (.iload 4, 2) := by decide +kernel
theorem dL_isRight_417 : decode cL_isRight 417 = .ok (.if_icmp .lt 36, 3) := by decide +kernel
theorem dL_isRight_420 : decode cL_isRight 420 = .ok (.iload 4, 2) := by decide +kernel
theorem dL_isRight_422 : decode cL_isRight 422 = .ok (.bipush 32, 2) := by decide +kernel
theorem dL_isRight_424 : decode cL_isRight 424 = .ok (.if_icmp .eq 13, 3) := by decide +kernel
theorem dL_isRight_427 : decode cL_isRight 427 = .ok (.aload_n 0, 1) := by decide +kernel
theorem dL_isRight_428 : decode cL_isRight 428 = .ok (.iconst 4, 1) := by decide +kernel
theorem dL_isRight_429 : decode cL_isRight 429 = .ok (.invokevirtual 28, 3) := by decide +kernel
theorem dL_isRight_432 : decode cL_isRight 432 = .ok (.iload 4, 2) := by decide +kernel
theorem dL_isRight_434 : decode cL_isRight 434 = .ok (.if_icmp .ne 19, 3) := by decide +kernel
theorem dL_isRight_437 : decode cL_isRight 437 = .ok (.aload_n 0, 1) := by decide +kernel
theorem dL_isRight_438 : decode cL_isRight 438 = .ok (.iload 4, 2) := by decide +kernel
theorem dL_isRight_440 : decode cL_isRight 440 = .ok (.iconst 0, 1) := by decide +kernel
theorem dL_isRight_441 : decode cL_isRight 441 = .ok (.invokevirtual 25, 3) := by decide +kernel
theorem dL_isRight_444 : decode cL_isRight 444 = .ok (.ldc 89, 2) := by decide +kernel
theorem dL_isRight_446 : decode cL_isRight 446 = .ok (.if_icmp .ne 7, 3) := by decide +kernel
theorem dL_isRight_449 : decode cL_isRight 449 = .ok (.iconst 1, 1) := by decide +kernel
theorem dL_isRight_450 : decode cL_isRight 450 = .ok (.goto 4, 3) := by decide +kernel
theorem dL_isRight_453 : decode cL_isRight 453 = .ok (.iconst 0, 1) := by decide +kernel
theorem dL_isRight_454 : decode cL_isRight 454 = .ok (.istore 6, 2) := by decide +kernel
theorem dL_isRight_456 : decode cL_isRight 456 = .ok (.iload 6, 2) := by decide +kernel
theorem dL_isRight_458 : decode cL_isRight 458 = .ok (.ifCond .eq 92, 3) := by decide +kernel
theorem dL_isRight_461 : decode cL_isRight 461 = .ok (.iload_n 3, 1) := by decide +kernel
theorem dL_isRight_462 : decode cL_isRight 462 = .ok (.iload_n 1, 1) := by decide +kernel
theorem dL_isRight_463 : decode cL_isRight 463 = .ok (.if_icmp .gt 87, 3) := by decide +kernel
theorem dL_isRight_466 : decode cL_isRight 466 = .ok (.iload_n 2, 1) := by decide +kernel
theorem dL_isRight_467 : decode cL_isRight 467 = .ok (.aload_n 0, 1) := by decide +kernel
theorem dL_isRight_468 : decode cL_isRight 468 = .ok (.bipush 7, 2) := by decide +kernel
theorem dL_isRight_470 : decode cL_isRight 470 = .ok (.invokevirtual 12, 3) := by decide +kernel
theorem dL_isRight_473 : decode cL_isRight 473 = .ok (.if_icmp .ne 77, 3) := by decide +kernel
theorem dL_isRight_476 : decode cL_isRight 476 = .ok (.iload 5, 2) := by decide +kernel
theorem dL_isRight_478 : decode cL_isRight 478 = .ok (.aload_n 0, 1) := by decide +kernel
theorem dL_isRight_479 : decode cL_isRight 479 = .ok (.iconst 0, 1) := by decide +kernel
theorem dL_isRight_480 : decode cL_isRight 480 = .ok (.invokevirtual 12, 3) := by decide +kernel
theorem dL_isRight_483 : decode cL_isRight 483 = .ok (.if_icmp .ne 67, 3) := by decide +kernel
theorem dL_isRight_486 : decode cL_isRight 486 = .ok (.iload 5, 2) := by decide +kernel
theorem dL_isRight_488 : decode cL_isRight 488 = .ok (.aload_n 0, 1) := by decide +kernel
theorem dL_isRight_489 : decode cL_isRight 489 = .ok (.bipush 6, 2) := by decide +kernel
theorem dL_isRight_491 : decode cL_isRight 491 = .ok (.invokevirtual 28, 3) := by decide +kernel
theorem dL_isRight_494 : decode cL_isRight 494 = .ok (.if_icmp .ne 56, 3) := by decide +kernel
theorem dL_isRight_497 : decode cL_isRight 497 = .ok (.aload_n 0, 1) := by decide +kernel
theorem dL_isRight_498 : decode cL_isRight 498 = .ok (.bipush 10, 2) := by decide +kernel
theorem dL_isRight_500 : decode cL_isRight 500 = .ok (.invokevirtual 12, 3) := by decide +kernel
theorem dL_isRight_503 : decode cL_isRight 503 = .ok (.aload_n 0, 1) := by decide +kernel
theorem dL_isRight_504 : decode cL_isRight 504 = .ok (.bipush 11, 2) := by decide +kernel
theorem dL_isRight_506 : decode cL_isRight 506 = .ok (.invokevirtual 12, 3) := by decide +kernel
theorem dL_isRight_509 : decode cL_isRight 509 = .ok (.iadd, 1) := by decide +kernel
theorem dL_isRight_510 : decode cL_isRight 510 = .ok (.aload_n 0, 1) := by decide +kernel
theorem dL_isRight_511 : decode cL_isRight 511 = .ok (.bipush 12, 2) := by decide +kernel
theorem dL_isRight_513 : decode cL_isRight 513 = .ok (.invokevirtual 12, 3) := by decide +kernel
theorem dL_isRight_516 : decode cL_isRight 516 = .ok (.iadd, 1) := by decide +kernel
theorem dL_isRight_517 : decode cL_isRight 517 = .ok (.bipush 8, 2) := by decide +kernel
theorem dL_isRight_519 : decode cL_isRight 519 = .ok (.if_icmp .ne 31, 3) := by decide +kernel
theorem dL_isRight_522 : decode cL_isRight 522 = .ok (.aload_n 0, 1) := by decide +kernel
theorem dL_isRight_523 : decode cL_isRight 523 = .ok (.invokevirtual 90, 3) := by decide +kernel
theorem dL_isRight_526 : decode cL_isRight 526 = .ok (.iload_n 1, 1) := by decide +kernel
theorem dL_isRight_527 : decode cL_isRight 527 = .ok (.if_icmp .gt 23, 3) := by decide +kernel
theorem dL_isRight_530 : decode cL_isRight 530 = .ok (.aload_n 0, 1) := by decide +kernel
theorem dL_isRight_531 : decode cL_isRight 531 = .ok (.invokevirtual 94, 3) := by decide +kernel
theorem dL_isRight_534 : decode cL_isRight 534 = .ok (.iconst (-1), 1) := by decide +kernel
theorem dL_isRight_535 : decode cL_isRight 535 = .ok (.if_icmp .lt 15, 3) := by decide +kernel
theorem dL_isRight_538 : decode cL_isRight 538 = .ok (.aload_n 0, 1) := by decide +kernel
theorem dL_isRight_539 : decode cL_isRight 539 = .ok (.invokevirtual 94, 3) := by decide +kernel
theorem dL_isRight_542 : decode cL_isRight 542 = .ok (.iconst 3, 1) := by decide +kernel
theorem dL_isRight_543 : decode cL_isRight 543 = .ok (.if_icmp .gt 7, 3) := by decide +kernel
theorem dL_isRight_546 : decode cL_isRight 546 = .ok (.iconst 1, 1) := by decide +kernel
theorem dL_isRight_547 : decode cL_isRight 547 = .ok (.goto 4, 3) := by decide +kernel
theorem dL_isRight_550 : decode cL_isRight 550 = .ok (.iconst 0, 1) := by decide +kernel
theorem dL_isRight_551 : decode cL_isRight 551 = .ok (.ireturn, 1) := by decide +kernel
set_option maxRecDepth 20000 in
theorem ggL_law_X10_init_0 : GoodIn wsL_law [.code yX10_init cX10_init 1 none] := goodIn_r _ [6] (by decide +kernel) (by decide +kernel)
set_option maxRecDepth 20000 in
theorem ggL_law_X10_init_1 : GoodIn wsL_law (wsX10_init_r1) := goodIn_r _ [7, 8, 9, 10, 11, 12, 13, 14, 15, 16, 17, 18, 19, 20, 21, 22, 23, 24, 25, 26, 27, 28, 29, 30] (by decide +kernel) (by decide +kernel)
set_option maxRecDepth 20000 in
theorem ggL_law_X10_init_2 : GoodIn wsL_law (wsX10_init_r2) := goodIn_r _ [31, 32, 33, 34, 35, 36, 37, 38, 39, 40, 41, 42, 43, 44, 45, 46, 47, 48, 49, 50, 51, 52, 53, 54] (by decide +kernel) (by decide +kernel)
set_option maxRecDepth 20000 in
theorem ggL_law_X10_init_3 : GoodIn wsL_law (wsX10_init_r3) := goodIn_r _ [55, 56, 57, 58, 59, 60, 61, 62, 63, 64, 65, 66, 67, 68, 69, 70, 71, 72, 73, 74, 75, 76, 77, 78] (by decide +kernel) (by decide +kernel)
set_option maxRecDepth 20000 in
theorem ggL_law_X10_init_4 : GoodIn wsL_law (wsX10_init_r4) := goodIn_r _ [79, 80, 81, 82, 83, 84, 85, 86, 87, 88, 89, 90, 91, 92, 93, 94, 95, 96, 97, 98, 99, 100, 101, 102] (by decide +kernel) (by decide +kernel)
set_option maxRecDepth 20000 in
theorem ggL_law_X10_init_5 : GoodIn wsL_law (wsX10_init_r5) := goodIn_r _ [103, 104, 105, 106, 107, 108, 109, 110, 111, 112, 113, 114, 115, 116, 117, 118, 119, 120, 121, 122, 123, 124, 125] (by decide +kernel) (by decide +kernel)
set_option maxRecDepth 20000 in
theorem ggL_law_X10_init_6 : GoodIn wsL_law (wsX60) := goodIn_r _ [601, 602, 603, 604, 605, 606, 607] (by decide +kernel) (by decide +kernel)
set_option maxRecDepth 20000 in
theorem ggL_law_X10_init_7 : GoodIn wsL_law (wsX100) := goodIn_r _ [595, 596, 597, 598, 599, 600] (by decide +kernel) (by decide +kernel)
set_option maxRecDepth 20000 in
theorem ggL_law_X10_init_8 : GoodIn wsL_law (wsX10) := goodIn_r _ [608, 609, 610] (by decide +kernel) (by decide +kernel)
set_option maxRecDepth 20000 in
theorem ggL_law_X10_init_9 : GoodIn wsL_law (wsX00) := goodIn_r _ [611, 612, 613, 614, 615] (by decide +kernel) (by decide +kernel)
set_option maxRecDepth 20000 in
theorem ggL_law_X10_init_10 : GoodIn wsL_law (wsX50) := goodIn_r _ [616, 617, 618] (by decide +kernel) (by decide +kernel)
set_option maxRecDepth 20000 in
theorem ggL_law_X10_init_11 : GoodIn wsL_law (wsX30) := goodIn_r _ [619, 620, 621, 622] (by decide +kernel) (by decide +kernel)
set_option maxRecDepth 20000 in
theorem ggL_law_X10_init_12 : GoodIn wsL_law (wsX90) := goodIn_r _ [623, 624, 625, 626] (by decide +kernel) (by decide +kernel)
set_option maxRecDepth 20000 in
theorem ggL_law_X10_init_13 : GoodIn wsL_law (wsX20) := goodIn_r _ [627, 628, 629] (by decide +kernel) (by decide +kernel)
set_option maxRecDepth 20000 in
theorem ggL_law_X10_init_14 : GoodIn wsL_law (wsX70) := goodIn_r _ [630, 631] (by decide +kernel) (by decide +kernel)
set_option maxRecDepth 20000 in
theorem ggL_law_X10_init_15 : GoodIn wsL_law (wsX40) := goodIn_r _ [632, 633] (by decide +kernel) (by decide +kernel)
set_option maxRecDepth 20000 in
theorem ggL_law_X10_init_16 : GoodIn wsL_law (wsX80) := goodIn_r _ [634, 635] (by decide +kernel) (by decide +kernel)
theorem ggL_law_X10_init : GoodIn wsL_law wsX10_init := goodIn_ca (a := []) ggL_law_X10_init_0 (goodIn_app (goodIn_app (goodIn_app (goodIn_app (goodIn_app (goodIn_app (goodIn_app (goodIn_app (goodIn_app (goodIn_app (goodIn_app (goodIn_app ggL_law_X10_init_1 (goodIn_app ggL_law_X10_init_2 (goodIn_app ggL_law_X10_init_3 (goodIn_app ggL_law_X10_init_4 ggL_law_X10_init_5)))) ggL_law_X10_init_6) ggL_law_X10_init_7) ggL_law_X10_init_8) ggL_law_X10_init_9) ggL_law_X10_init_10) ggL_law_X10_init_11) ggL_law_X10_init_12) ggL_law_X10_init_13) ggL_law_X10_init_14) ggL_law_X10_init_15) ggL_law_X10_init_16)
set_option maxRecDepth 20000 in
theorem gL_law_X10_init : GoodIn wsL_law (wsX10_init) := ggL_law_X10_init
set_option maxRecDepth 20000 in
theorem ggL_law_L_cell : GoodIn wsL_law wsL_cell := goodIn_r _ [129] (by decide +kernel) (by decide +kernel)
set_option maxRecDepth 20000 in
theorem gL_law_L_cell : GoodIn wsL_law (va_wsS RL 98 yL_cell wsL_cell) := goodIn_app (goodIn_of _ (by decide +kernel)) ggL_law_L_cell
set_option maxRecDepth 20000 in
theorem ggL_law_L_digest_0 : GoodIn wsL_law [.code yL_digest cL_digest 5 (some .long)] := goodIn_r _ [132] (by decide +kernel) (by decide +kernel)
set_option maxRecDepth 20000 in
theorem ggL_law_L_digest_1 : GoodIn wsL_law (wsL_digest_r1) := goodIn_r _ [133, 134, 135, 136, 137, 2, 138, 13, 139, 140, 141, 142, 17, 143, 33, 144, 145, 146, 147, 148, 149, 12, 150, 48] (by decide +kernel) (by decide +kernel)
set_option maxRecDepth 20000 in
theorem ggL_law_L_digest_2 : GoodIn wsL_law (wsL_digest_r2) := goodIn_r _ [151, 152, 153, 46, 154, 71, 73, 155, 156, 157, 28, 158, 62, 159, 160, 161, 162, 163, 52, 164, 53, 165, 166, 167] (by decide +kernel) (by decide +kernel)
set_option maxRecDepth 20000 in
theorem ggL_law_L_digest_3 : GoodIn wsL_law (wsL_digest_r3) := goodIn_r _ [168, 169, 170, 171, 172, 173, 61, 174, 175, 176, 177, 60, 178, 179, 180, 181, 182, 183, 184, 185, 186, 187, 188, 189] (by decide +kernel) (by decide +kernel)
set_option maxRecDepth 20000 in
theorem ggL_law_L_digest_4 : GoodIn wsL_law (wsL_digest_r4) := goodIn_r _ [190, 191, 192, 193, 194, 47, 54, 39, 195, 196, 197, 198, 199, 200, 201, 202, 203, 204, 205, 206, 207, 208, 209, 210] (by decide +kernel) (by decide +kernel)
set_option maxRecDepth 20000 in
theorem ggL_law_L_digest_5 : GoodIn wsL_law (wsL_digest_r5) := goodIn_r _ [211, 212, 213, 214, 215, 216, 217, 218, 219, 220, 42, 221, 82, 222, 223, 224, 225, 226, 227, 228, 229, 230, 231, 232] (by decide +kernel) (by decide +kernel)
set_option maxRecDepth 20000 in
theorem ggL_law_L_digest_6 : GoodIn wsL_law (wsL_digest_r6) := goodIn_r _ [233, 234, 235, 236, 237, 238, 239, 240, 241, 242, 243, 244, 245, 246, 247, 248, 69, 249] (by decide +kernel) (by decide +kernel)
set_option maxRecDepth 20000 in
theorem ggL_law_L_digest_7 : GoodIn wsL_law (wsX100) := goodIn_r _ [595, 596, 597, 598, 599, 600] (by decide +kernel) (by decide +kernel)
set_option maxRecDepth 20000 in
theorem ggL_law_L_digest_8 : GoodIn wsL_law (wsX60) := goodIn_r _ [601, 602, 603, 604, 605, 606, 607] (by decide +kernel) (by decide +kernel)
set_option maxRecDepth 20000 in
theorem ggL_law_L_digest_9 : GoodIn wsL_law (wsX30) := goodIn_r _ [619, 620, 621, 622] (by decide +kernel) (by decide +kernel)
set_option maxRecDepth 20000 in
theorem ggL_law_L_digest_10 : GoodIn wsL_law (wsX20) := goodIn_r _ [627, 628, 629] (by decide +kernel) (by decide +kernel)
set_option maxRecDepth 20000 in
theorem ggL_law_L_digest_11 : GoodIn wsL_law (wsX10) := goodIn_r _ [608, 609, 610] (by decide +kernel) (by decide +kernel)
set_option maxRecDepth 20000 in
theorem ggL_law_L_digest_12 : GoodIn wsL_law (wsX90) := goodIn_r _ [623, 624, 625, 626] (by decide +kernel) (by decide +kernel)
set_option maxRecDepth 20000 in
theorem ggL_law_L_digest_13 : GoodIn wsL_law (wsX80) := goodIn_r _ [634, 635] (by decide +kernel) (by decide +kernel)
set_option maxRecDepth 20000 in
theorem ggL_law_L_digest_14 : GoodIn wsL_law (wsX70) := goodIn_r _ [630, 631] (by decide +kernel) (by decide +kernel)
set_option maxRecDepth 20000 in
theorem ggL_law_L_digest_15 : GoodIn wsL_law (wsX40) := goodIn_r _ [632, 633] (by decide +kernel) (by decide +kernel)
theorem ggL_law_L_digest : GoodIn wsL_law wsL_digest := goodIn_ca (a := []) ggL_law_L_digest_0 (goodIn_app (goodIn_app (goodIn_app (goodIn_app (goodIn_app (goodIn_app (goodIn_app (goodIn_app (goodIn_app (goodIn_app ggL_law_L_digest_1 (goodIn_app ggL_law_L_digest_2 (goodIn_app ggL_law_L_digest_3 (goodIn_app ggL_law_L_digest_4 (goodIn_app ggL_law_L_digest_5 ggL_law_L_digest_6))))) ggL_law_L_digest_7) ggL_law_L_digest_8) ggL_law_L_digest_9) ggL_law_L_digest_10) ggL_law_L_digest_11) ggL_law_L_digest_12) ggL_law_L_digest_13) ggL_law_L_digest_14) ggL_law_L_digest_15)
set_option maxRecDepth 20000 in
theorem gL_law_L_digest : GoodIn wsL_law (va_wsS RL 102 yL_digest wsL_digest) := goodIn_app (goodIn_of _ (by decide +kernel)) ggL_law_L_digest
