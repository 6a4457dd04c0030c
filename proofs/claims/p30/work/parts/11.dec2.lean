theorem dX9_readItem_0 : decode cX9_readItem 0 = .ok (.aload_n 0, 1) := by decide +kernel
theorem dX9_readItem_1 : decode cX9_readItem 1 = .ok (.invokevirtual 40, 3) := by decide +kernel
theorem dX9_readItem_4 : decode cX9_readItem 4 = .ok (.istore_n 1, 1) := by decide +kernel
theorem dX9_readItem_5 : decode cX9_readItem 5 = .ok (.iload_n 1, 1) := by decide +kernel
theorem dX9_readItem_6 : decode cX9_readItem 6 = .ok (.bipush 103, 2) := by decide +kernel
theorem dX9_readItem_8 : decode cX9_readItem 8 = .ok (.if_icmp .eq 9, 3) := by decide +kernel
theorem dX9_readItem_11 : decode cX9_readItem 11 = .ok (.iload_n 1, 1) := by decide +kernel
theorem dX9_readItem_12 : decode cX9_readItem 12 = .ok (.bipush 102, 2) := by decide +kernel
theorem dX9_readItem_14 : decode cX9_readItem 14 = .ok (.if_icmp .ne 31, 3) := by decide +kernel
theorem dX9_readItem_17 : decode cX9_readItem 17 = .ok (.aload_n 0, 1) := by decide +kernel
theorem dX9_readItem_18 : decode cX9_readItem 18 = .ok (.dup, 1) := by decide +kernel
theorem dX9_readItem_19 : decode cX9_readItem 19 = .ok (.getfield 29, 3) := by decide +kernel
theorem dX9_readItem_22 : decode cX9_readItem 22 = .ok (.iconst 1, 1) := by decide +kernel
theorem dX9_readItem_23 : decode cX9_readItem 23 = .ok (.iadd, 1) := by decide +kernel
theorem dX9_readItem_24 : decode cX9_readItem 24 = .ok (.putfield 29, 3) := by decide +kernel
theorem dX9_readItem_27 : decode cX9_readItem 27 = .ok (.aload_n 0, 1) := by decide +kernel
theorem dX9_readItem_28 : decode cX9_readItem 28 = .ok (.iload_n 1, 1) := by decide +kernel
theorem dX9_readItem_29 : decode cX9_readItem 29 = .ok (.bipush 103, 2) := by decide +kernel
theorem dX9_readItem_31 : decode cX9_readItem 31 = .ok (.if_icmp .ne 8, 3) := by decide +kernel
theorem dX9_readItem_34 : decode cX9_readItem 34 = .ok (.bipush 8, 2) := by decide +kernel
theorem dX9_readItem_36 : decode cX9_readItem 36 = .ok (.goto 5, 3) := by decide +kernel
theorem dX9_readItem_39 : decode cX9_readItem 39 = .ok (.bipush 9, 2) := by decide +kernel
theorem dX9_readItem_41 : decode cX9_readItem 41 = .ok (.invokevirtual 47, 3) := by decide +kernel
theorem dX9_readItem_44 : decode cX9_readItem 44 = .ok (.return_, 1) := by decide +kernel
theorem dX9_readItem_45 : decode cX9_readItem 45 = .ok (.aload_n 0, 1) := by decide +kernel
theorem dX9_readItem_46 : decode cX9_readItem 46 = .ok (.iconst 0, 1) := by decide +kernel
theorem dX9_readItem_47 : decode cX9_readItem 47 = .ok (.bipush 7, 2) := by decide +kernel
theorem dX9_readItem_49 : decode cX9_readItem 49 = .ok (.invokevirtual 51, 3) := by decide +kernel
theorem dX9_readItem_52 : decode cX9_readItem 52 = .ok (.istore_n 2, 1) := by decide +kernel
theorem dX9_readItem_53 : decode cX9_readItem 53 = .ok (.aload_n 0, 1) := by decide +kernel
theorem dX9_readItem_54 : decode cX9_readItem 54 = .ok (.invokevirtual 40, 3) := by decide +kernel
theorem dX9_readItem_57 : decode cX9_readItem 57 = .ok (.lookupswitch 79 #[(58, 71), (61, 35), (114, 53)], 35) := by decide +kernel
theorem dX9_readItem_92 : decode cX9_readItem 92 = .ok (.aload_n 0, 1) := by decide +kernel
theorem dX9_readItem_93 : decode cX9_readItem 93 = .ok (.dup, 1) := by decide +kernel
theorem dX9_readItem_94 : decode cX9_readItem 94 = .ok (.getfield 29, 3) := by decide +kernel
theorem dX9_readItem_97 : decode cX9_readItem 97 = .ok (.iconst 1, 1) := by decide +kernel
theorem dX9_readItem_98 : decode cX9_readItem 98 = .ok (.iadd, 1) := by decide +kernel
theorem dX9_readItem_99 : decode cX9_readItem 99 = .ok (.putfield 29, 3) := by decide +kernel
theorem dX9_readItem_102 : decode cX9_readItem 102 = .ok (.aload_n 0, 1) := by decide +kernel
theorem dX9_readItem_103 : decode cX9_readItem 103 = .ok (.iload_n 2, 1) := by decide +kernel
theorem dX9_readItem_104 : decode cX9_readItem 104 = .ok (.invokevirtual 55, 3) := by decide +kernel
theorem dX9_readItem_107 : decode cX9_readItem 107 = .ok (.goto 37, 3) := by decide +kernel
theorem dX9_readItem_110 : decode cX9_readItem 110 = .ok (.aload_n 0, 1) := by decide +kernel
theorem dX9_readItem_111 : decode cX9_readItem 111 = .ok (.dup, 1) := by decide +kernel
theorem dX9_readItem_112 : decode cX9_readItem 112 = .ok (.getfield 29, 3) := by decide +kernel
theorem dX9_readItem_115 : decode cX9_readItem 115 = .ok (.iconst 1, 1) := by decide +kernel
theorem dX9_readItem_116 : decode cX9_readItem 116 = .ok (.iadd, 1) := by decide +kernel
theorem dX9_readItem_117 : decode cX9_readItem 117 = .ok (.putfield 29, 3) := by decide +kernel
theorem dX9_readItem_120 : decode cX9_readItem 120 = .ok (.aload_n 0, 1) := by decide +kernel
theorem dX9_readItem_121 : decode cX9_readItem 121 = .ok (.iload_n 2, 1) := by decide +kernel
theorem dX9_readItem_122 : decode cX9_readItem 122 = .ok (.invokevirtual 58, 3) := by decide +kernel
theorem dX9_readItem_125 : decode cX9_readItem 125 = .ok (.goto 19, 3) := by decide +kernel
theorem dX9_readItem_128 : decode cX9_readItem 128 = .ok (.aload_n 0, 1) := by decide +kernel
theorem dX9_readItem_129 : decode cX9_readItem 129 = .ok (.iload_n 2, 1) := by decide +kernel
theorem dX9_readItem_130 : decode cX9_readItem 130 = .ok (.invokevirtual 47, 3) := by decide +kernel
theorem dX9_readItem_133 : decode cX9_readItem 133 = .ok (.goto 11, 3) := by decide +kernel
theorem dX9_readItem_136 : decode cX9_readItem 136 = .ok (.aload_n 0, 1) := by decide +kernel
theorem dX9_readItem_137 : decode cX9_readItem 137 = .ok (.aload_n 0, 1) := by decide +kernel
theorem dX9_readItem_138 : decode cX9_readItem 138 = .ok (.getfield 29, 3) := by decide +kernel
theorem dX9_readItem_141 : decode cX9_readItem 141 = .ok (.invokevirtual 61, 3) := by decide +kernel
theorem dX9_readItem_144 : decode cX9_readItem 144 = .ok (.return_, 1) := by decide +kernel
set_option maxRecDepth 20000 in
theorem ggX9_readSource_X9_readNumber : GoodIn wsX9_readSource wsX9_readNumber := goodIn_r _ [7, 1, 8, 9, 10, 11, 12, 13, 14, 15, 6, 16, 17, 18, 19, 20, 21, 22, 23, 24, 25, 26, 27, 28, 29, 30, 31, 32, 33, 34, 35, 36, 37, 38, 56, 57, 58, 59, 60, 61] (by decide +kernel) (by decide +kernel)
set_option maxRecDepth 20000 in
theorem gX9_readSource_X9_readNumber : GoodIn wsX9_readSource (wsV RX9 51 RX9 yX9_readNumber wsX9_readNumber) := goodIn_app (goodIn_of _ (by decide +kernel)) ggX9_readSource_X9_readNumber
set_option maxRecDepth 20000 in
theorem ggX9_readSource_X9_next : GoodIn wsX9_readSource wsX9_next := goodIn_r _ [16, 1, 8, 17, 18, 19, 20, 21, 22, 23, 56, 57, 58, 59, 60, 61] (by decide +kernel) (by decide +kernel)
set_option maxRecDepth 20000 in
theorem gX9_readSource_X9_next : GoodIn wsX9_readSource (wsV RX9 40 RX9 yX9_next wsX9_next) := goodIn_app (goodIn_of _ (by decide +kernel)) ggX9_readSource_X9_next
set_option maxRecDepth 20000 in
theorem ggX9_readSource_X9_expect : GoodIn wsX9_readSource wsX9_expect := goodIn_r _ [42, 1, 13, 14, 15, 6, 16, 8, 17, 18, 19, 20, 21, 22, 23, 30, 31, 32, 33, 34, 35, 36, 37, 38, 56, 57, 58, 59, 60, 61] (by decide +kernel) (by decide +kernel)
set_option maxRecDepth 20000 in
theorem gX9_readSource_X9_expect : GoodIn wsX9_readSource (wsV RX9 64 RX9 yX9_expect wsX9_expect) := goodIn_app (goodIn_of _ (by decide +kernel)) ggX9_readSource_X9_expect
set_option maxRecDepth 20000 in
theorem ggX9_readSource_X9_hasFailed : GoodIn wsX9_readSource wsX9_hasFailed := goodIn_r _ [38, 34, 56, 57, 58, 59] (by decide +kernel) (by decide +kernel)
set_option maxRecDepth 20000 in
theorem gX9_readSource_X9_hasFailed : GoodIn wsX9_readSource (wsV RX9 36 RX9 yX9_hasFailed wsX9_hasFailed) := goodIn_app (goodIn_of _ (by decide +kernel)) ggX9_readSource_X9_hasFailed
set_option maxRecDepth 20000 in
theorem ggX9_readSource_X3_putSource : GoodIn wsX9_readSource wsX3_putSource := goodIn_r _ [47, 48, 49, 50, 51, 52, 53, 54, 55, 62, 63, 64, 65, 66, 67] (by decide +kernel) (by decide +kernel)
set_option maxRecDepth 20000 in
theorem gX9_readSource_X3_putSource : GoodIn wsX9_readSource (wsV RX9 68 RX3 yX3_putSource wsX3_putSource) := goodIn_app (goodIn_of _ (by decide +kernel)) ggX9_readSource_X3_putSource
theorem dX9_readSource_0 : decode cX9_readSource 0 = .ok (.iconst 0, 1) := by decide +kernel
theorem dX9_readSource_1 : decode cX9_readSource 1 = .ok (.istore_n 2, 1) := by decide +kernel
theorem dX9_readSource_2 : decode cX9_readSource 2 = .ok (.aload_n 0, 1) := by decide +kernel
theorem dX9_readSource_3 : decode cX9_readSource 3 = .ok (.iconst 0, 1) := by decide +kernel
theorem dX9_readSource_4 : decode cX9_readSource 4 = .ok (.sipush 4095, 3) := by decide +kernel
theorem dX9_readSource_7 : decode cX9_readSource 7 = .ok (.invokevirtual 51, 3) := by decide +kernel
theorem dX9_readSource_10 : decode cX9_readSource 10 = .ok (.istore_n 3, 1) := by decide +kernel
theorem dX9_readSource_11 : decode cX9_readSource 11 = .ok (.iconst 0, 1) := by decide +kernel
theorem dX9_readSource_12 : decode cX9_readSource 12 = .ok (.istore 4, 2) := by decide +kernel
theorem dX9_readSource_14 : decode cX9_readSource 14 = .ok (.iconst 0, 1) := by decide +kernel
theorem dX9_readSource_15 : decode cX9_readSource 15 = .ok (.istore 5, 2) := by decide +kernel
theorem dX9_readSource_17 : decode cX9_readSource 17 = .ok (.aload_n 0, 1) := by decide +kernel
theorem dX9_readSource_18 : decode cX9_readSource 18 = .ok (.invokevirtual 40, 3) := by decide +kernel
theorem dX9_readSource_21 : decode cX9_readSource 21 = .ok (.istore 6, 2) := by decide +kernel
theorem dX9_readSource_23 : decode cX9_readSource 23 = .ok (.iload 6, 2) := by decide +kernel
theorem dX9_readSource_25 : decode cX9_readSource 25 = .ok (.bipush 43, 2) := by decide +kernel
theorem dX9_readSource_27 : decode cX9_readSource 27 = .ok (.if_icmp .eq 10, 3) := by decide +kernel
theorem dX9_readSource_30 : decode cX9_readSource 30 = .ok (.iload 6, 2) := by decide +kernel
theorem dX9_readSource_32 : decode cX9_readSource 32 = .ok (.bipush 45, 2) := by decide +kernel
theorem dX9_readSource_34 : decode cX9_readSource 34 = .ok (.if_icmp .ne 44, 3) := by decide +kernel
theorem dX9_readSource_37 : decode cX9_readSource 37 = .ok (.aload_n 0, 1) := by decide +kernel
theorem dX9_readSource_38 : decode cX9_readSource 38 = .ok (.dup, 1) := by decide +kernel
theorem dX9_readSource_39 : decode cX9_readSource 39 = .ok (.getfield 29, 3) := by decide +kernel
theorem dX9_readSource_42 : decode cX9_readSource 42 = .ok (.iconst 1, 1) := by decide +kernel
theorem dX9_readSource_43 : decode cX9_readSource 43 = .ok (.iadd, 1) := by decide +kernel
theorem dX9_readSource_44 : decode cX9_readSource 44 = .ok (.putfield 29, 3) := by decide +kernel
theorem dX9_readSource_47 : decode cX9_readSource 47 = .ok (.iconst 1, 1) := by decide +kernel
theorem dX9_readSource_48 : decode cX9_readSource 48 = .ok (.istore_n 2, 1) := by decide +kernel
theorem dX9_readSource_49 : decode cX9_readSource 49 = .ok (.aload_n 0, 1) := by decide +kernel
theorem dX9_readSource_50 : decode cX9_readSource 50 = .ok (.iconst 0, 1) := by decide +kernel
theorem dX9_readSource_51 : decode cX9_readSource 51 = .ok (.bipush 64, 2) := by decide +kernel
theorem dX9_readSource_53 : decode cX9_readSource 53 = .ok (.invokevirtual 51, 3) := by decide +kernel
theorem dX9_readSource_56 : decode cX9_readSource 56 = .ok (.istore 7, 2) := by decide +kernel
theorem dX9_readSource_58 : decode cX9_readSource 58 = .ok (.iload 6, 2) := by decide +kernel
theorem dX9_readSource_60 : decode cX9_readSource 60 = .ok (.bipush 45, 2) := by decide +kernel
theorem dX9_readSource_62 : decode cX9_readSource 62 = .ok (.if_icmp .ne 9, 3) := by decide +kernel
theorem dX9_readSource_65 : decode cX9_readSource 65 = .ok (.iload 7, 2) := by decide +kernel
theorem dX9_readSource_67 : decode cX9_readSource 67 = .ok (.ineg, 1) := by decide +kernel
theorem dX9_readSource_68 : decode cX9_readSource 68 = .ok (.goto 5, 3) := by decide +kernel
theorem dX9_readSource_71 : decode cX9_readSource 71 = .ok (.iload 7, 2) := by decide +kernel
theorem dX9_readSource_73 : decode cX9_readSource 73 = .ok (.istore 4, 2) := by decide +kernel
theorem dX9_readSource_75 : decode cX9_readSource 75 = .ok (.goto 48, 3) := by decide +kernel
theorem dX9_readSource_78 : decode cX9_readSource 78 = .ok (.iload 6, 2) := by decide +kernel
theorem dX9_readSource_80 : decode cX9_readSource 80 = .ok (.bipush 44, 2) := by decide +kernel
theorem dX9_readSource_82 : decode cX9_readSource 82 = .ok (.if_icmp .ne 41, 3) := by decide +kernel
theorem dX9_readSource_85 : decode cX9_readSource 85 = .ok (.aload_n 0, 1) := by decide +kernel
theorem dX9_readSource_86 : decode cX9_readSource 86 = .ok (.dup, 1) := by decide +kernel
theorem dX9_readSource_87 : decode cX9_readSource 87 = .ok (.getfield 29, 3) := by decide +kernel
theorem dX9_readSource_90 : decode cX9_readSource 90 = .ok (.iconst 1, 1) := by decide +kernel
theorem dX9_readSource_91 : decode cX9_readSource 91 = .ok (.iadd, 1) := by decide +kernel
theorem dX9_readSource_92 : decode cX9_readSource 92 = .ok (.putfield 29, 3) := by decide +kernel
theorem dX9_readSource_95 : decode cX9_readSource 95 = .ok (.iconst 2, 1) := by decide +kernel
theorem dX9_readSource_96 : decode cX9_readSource 96 = .ok (.istore_n 2, 1) := by decide +kernel
theorem dX9_readSource_97 : decode cX9_readSource 97 = .ok (.aload_n 0, 1) := by decide +kernel
theorem dX9_readSource_98 : decode cX9_readSource 98 = .ok (.iconst 0, 1) := by decide +kernel
theorem dX9_readSource_99 : decode cX9_readSource 99 = .ok (.sipush 4095, 3) := by decide +kernel
theorem dX9_readSource_102 : decode cX9_readSource 102 = .ok (.invokevirtual 51, 3) := by decide +kernel
theorem dX9_readSource_105 : decode cX9_readSource 105 = .ok (.istore 4, 2) := by decide +kernel
theorem dX9_readSource_107 : decode cX9_readSource 107 = .ok (.aload_n 0, 1) := by decide +kernel
theorem dX9_readSource_108 : decode cX9_readSource 108 = .ok (.bipush 47, 2) := by decide +kernel
theorem dX9_readSource_110 : decode cX9_readSource 110 = .ok (.invokevirtual 64, 3) := by decide +kernel
theorem dX9_readSource_113 : decode cX9_readSource 113 = .ok (.aload_n 0, 1) := by decide +kernel
theorem dX9_readSource_114 : decode cX9_readSource 114 = .ok (.iconst 2, 1) := by decide +kernel
theorem dX9_readSource_115 : decode cX9_readSource 115 = .ok (.sipush 200, 3) := by decide +kernel
theorem dX9_readSource_118 : decode cX9_readSource 118 = .ok (.invokevirtual 51, 3) := by decide +kernel
theorem dX9_readSource_121 : decode cX9_readSource 121 = .ok (.istore 5, 2) := by decide +kernel
theorem dX9_readSource_123 : decode cX9_readSource 123 = .ok (.aload_n 0, 1) := by decide +kernel
theorem dX9_readSource_124 : decode cX9_readSource 124 = .ok (.bipush 59, 2) := by decide +kernel
theorem dX9_readSource_126 : decode cX9_readSource 126 = .ok (.invokevirtual 64, 3) := by decide +kernel
theorem dX9_readSource_129 : decode cX9_readSource 129 = .ok (.aload_n 0, 1) := by decide +kernel
theorem dX9_readSource_130 : decode cX9_readSource 130 = .ok (.invokevirtual 36, 3) := by decide +kernel
theorem dX9_readSource_133 : decode cX9_readSource 133 = .ok (.ifCond .ne 17, 3) := by decide +kernel
theorem dX9_readSource_136 : decode cX9_readSource 136 = .ok (.aload_n 0, 1) := by decide +kernel
theorem dX9_readSource_137 : decode cX9_readSource 137 = .ok (.getfield 21, 3) := by decide +kernel
theorem dX9_readSource_140 : decode cX9_readSource 140 = .ok (.iload_n 1, 1) := by decide +kernel
theorem dX9_readSource_141 : decode cX9_readSource 141 = .ok (.iload_n 2, 1) := by decide +kernel
theorem dX9_readSource_142 : decode cX9_readSource 142 = .ok (.iload_n 3, 1) := by decide +kernel
theorem dX9_readSource_143 : decode cX9_readSource 143 = .ok (.iload 4, 2) := by decide +kernel
theorem dX9_readSource_145 : decode cX9_readSource 145 = .ok (.iload 5, 2) := by decide +kernel
theorem dX9_readSource_147 : decode cX9_readSource 147 = .ok (.invokevirtual 68, 3) := by decide +kernel
theorem dX9_readSource_150 : decode cX9_readSource 150 = .ok (.return_, 1) := by decide +kernel
set_option maxRecDepth 20000 in
theorem ggX9_readResistance_X9_readNumber : GoodIn wsX9_readResistance wsX9_readNumber := goodIn_r _ [7, 8, 9, 10, 11, 12, 13, 14, 15, 16, 6, 17, 18, 19, 20, 21, 22, 23, 24, 25, 26, 27, 28, 29, 30, 31, 32, 33, 34, 35, 36, 37, 38, 39, 51, 52, 53, 54, 59, 60] (by decide +kernel) (by decide +kernel)
set_option maxRecDepth 20000 in
theorem gX9_readResistance_X9_readNumber : GoodIn wsX9_readResistance (wsV RX9 51 RX9 yX9_readNumber wsX9_readNumber) := goodIn_app (goodIn_of _ (by decide +kernel)) ggX9_readResistance_X9_readNumber
set_option maxRecDepth 20000 in
theorem ggX9_readResistance_X9_expect : GoodIn wsX9_readResistance wsX9_expect := goodIn_r _ [43, 8, 14, 15, 16, 6, 17, 9, 18, 19, 20, 21, 22, 23, 24, 31, 32, 33, 34, 35, 36, 37, 38, 39, 51, 52, 53, 54, 59, 60] (by decide +kernel) (by decide +kernel)
set_option maxRecDepth 20000 in
theorem gX9_readResistance_X9_expect : GoodIn wsX9_readResistance (wsV RX9 64 RX9 yX9_expect wsX9_expect) := goodIn_app (goodIn_of _ (by decide +kernel)) ggX9_readResistance_X9_expect
set_option maxRecDepth 20000 in
theorem ggX9_readResistance_X9_hasFailed : GoodIn wsX9_readResistance wsX9_hasFailed := goodIn_r _ [39, 35, 51, 52, 53, 54] (by decide +kernel) (by decide +kernel)
set_option maxRecDepth 20000 in
theorem gX9_readResistance_X9_hasFailed : GoodIn wsX9_readResistance (wsV RX9 36 RX9 yX9_hasFailed wsX9_hasFailed) := goodIn_app (goodIn_of _ (by decide +kernel)) ggX9_readResistance_X9_hasFailed
set_option maxRecDepth 20000 in
theorem ggX9_readResistance_X7_put : GoodIn wsX9_readResistance wsX7_put := goodIn_r _ [48, 49, 50, 61, 62] (by decide +kernel) (by decide +kernel)
set_option maxRecDepth 20000 in
theorem gX9_readResistance_X7_put : GoodIn wsX9_readResistance (wsV RX9 76 RX7 yX7_put wsX7_put) := goodIn_app (goodIn_of _ (by decide +kernel)) ggX9_readResistance_X7_put
theorem dX9_readResistance_0 : decode cX9_readResistance 0 = .ok (.aload_n 0, 1) := by decide +kernel
theorem dX9_readResistance_1 : decode cX9_readResistance 1 = .ok (.iconst 0, 1) := by decide +kernel
theorem dX9_readResistance_2 : decode cX9_readResistance 2 = .ok (.bipush 31, 2) := by decide +kernel
theorem dX9_readResistance_4 : decode cX9_readResistance 4 = .ok (.invokevirtual 51, 3) := by decide +kernel
theorem dX9_readResistance_7 : decode cX9_readResistance 7 = .ok (.istore_n 2, 1) := by decide +kernel
theorem dX9_readResistance_8 : decode cX9_readResistance 8 = .ok (.aload_n 0, 1) := by decide +kernel
theorem dX9_readResistance_9 : decode cX9_readResistance 9 = .ok (.bipush 59, 2) := by decide +kernel
theorem dX9_readResistance_11 : decode cX9_readResistance 11 = .ok (.invokevirtual 64, 3) := by decide +kernel
theorem dX9_readResistance_14 : decode cX9_readResistance 14 = .ok (.aload_n 0, 1) := by decide +kernel
theorem dX9_readResistance_15 : decode cX9_readResistance 15 = .ok (.invokevirtual 36, 3) := by decide +kernel
theorem dX9_readResistance_18 : decode cX9_readResistance 18 = .ok (.ifCond .ne 16, 3) := by decide +kernel
theorem dX9_readResistance_21 : decode cX9_readResistance 21 = .ok (.aload_n 0, 1) := by decide +kernel
theorem dX9_readResistance_22 : decode cX9_readResistance 22 = .ok (.getfield 21, 3) := by decide +kernel
theorem dX9_readResistance_25 : decode cX9_readResistance 25 = .ok (.getfield 72, 3) := by decide +kernel
theorem dX9_readResistance_28 : decode cX9_readResistance 28 = .ok (.iload_n 1, 1) := by decide +kernel
theorem dX9_readResistance_29 : decode cX9_readResistance 29 = .ok (.iconst 4, 1) := by decide +kernel
theorem dX9_readResistance_30 : decode cX9_readResistance 30 = .ok (.iload_n 2, 1) := by decide +kernel
theorem dX9_readResistance_31 : decode cX9_readResistance 31 = .ok (.invokevirtual 76, 3) := by decide +kernel
theorem dX9_readResistance_34 : decode cX9_readResistance 34 = .ok (.return_, 1) := by decide +kernel
set_option maxRecDepth 20000 in
theorem ggX9_readEntry_X9_next : GoodIn wsX9_readEntry wsX9_next := goodIn_r _ [8, 3, 9, 10, 11, 12, 13, 14, 15, 16, 67, 68, 69, 70, 75, 76] (by decide +kernel) (by decide +kernel)
set_option maxRecDepth 20000 in
theorem gX9_readEntry_X9_next : GoodIn wsX9_readEntry (wsV RX9 40 RX9 yX9_next wsX9_next) := goodIn_app (goodIn_of _ (by decide +kernel)) ggX9_readEntry_X9_next
set_option maxRecDepth 20000 in
theorem ggX9_readEntry_X9_failAt : GoodIn wsX9_readEntry wsX9_failAt := goodIn_r _ [20, 21, 22, 23, 24, 7, 25, 67, 68, 69, 70] (by decide +kernel) (by decide +kernel)
set_option maxRecDepth 20000 in
theorem gX9_readEntry_X9_failAt : GoodIn wsX9_readEntry (wsV RX9 61 RX9 yX9_failAt wsX9_failAt) := goodIn_app (goodIn_of _ (by decide +kernel)) ggX9_readEntry_X9_failAt
set_option maxRecDepth 20000 in
theorem ggX9_readEntry_X9_expect : GoodIn wsX9_readEntry wsX9_expect := goodIn_r _ [29, 3, 4, 5, 6, 7, 8, 9, 10, 11, 12, 13, 14, 15, 16, 17, 18, 19, 20, 21, 22, 23, 24, 25, 67, 68, 69, 70, 75, 76] (by decide +kernel) (by decide +kernel)
set_option maxRecDepth 20000 in
theorem gX9_readEntry_X9_expect : GoodIn wsX9_readEntry (wsV RX9 64 RX9 yX9_expect wsX9_expect) := goodIn_app (goodIn_of _ (by decide +kernel)) ggX9_readEntry_X9_expect
set_option maxRecDepth 20000 in
theorem ggX9_readEntry_X9_readNumber : GoodIn wsX9_readEntry wsX9_readNumber := goodIn_r _ [33, 3, 9, 34, 35, 36, 37, 4, 5, 6, 7, 8, 10, 11, 12, 13, 14, 15, 16, 38, 39, 40, 41, 42, 43, 17, 18, 19, 20, 21, 22, 23, 24, 25, 67, 68, 69, 70, 75, 76] (by decide +kernel) (by decide +kernel)
set_option maxRecDepth 20000 in
theorem gX9_readEntry_X9_readNumber : GoodIn wsX9_readEntry (wsV RX9 51 RX9 yX9_readNumber wsX9_readNumber) := goodIn_app (goodIn_of _ (by decide +kernel)) ggX9_readEntry_X9_readNumber
set_option maxRecDepth 20000 in
theorem ggX9_readEntry_X9_hasFailed : GoodIn wsX9_readEntry wsX9_hasFailed := goodIn_r _ [25, 21, 67, 68, 69, 70] (by decide +kernel) (by decide +kernel)
set_option maxRecDepth 20000 in
theorem gX9_readEntry_X9_hasFailed : GoodIn wsX9_readEntry (wsV RX9 36 RX9 yX9_hasFailed wsX9_hasFailed) := goodIn_app (goodIn_of _ (by decide +kernel)) ggX9_readEntry_X9_hasFailed
set_option maxRecDepth 20000 in
theorem ggX9_readEntry_X3_insert : GoodIn wsX9_readEntry wsX3_insert := goodIn_r _ [48, 49, 50, 51, 52, 53, 54, 55, 56, 57, 58, 59, 60, 61, 62, 63, 64, 65, 66, 71, 72, 73, 74, 77, 78] (by decide +kernel) (by decide +kernel)
set_option maxRecDepth 20000 in
theorem gX9_readEntry_X3_insert : GoodIn wsX9_readEntry (wsV RX9 85 RX3 yX3_insert wsX3_insert) := goodIn_app (goodIn_of _ (by decide +kernel)) ggX9_readEntry_X3_insert
theorem dX9_readEntry_0 : decode cX9_readEntry 0 = .ok (.aload_n 0, 1) := by decide +kernel
theorem dX9_readEntry_1 : decode cX9_readEntry 1 = .ok (.getfield 21, 3) := by decide +kernel
theorem dX9_readEntry_4 : decode cX9_readEntry 4 = .ok (.getfield 82, 3) := by decide +kernel
theorem dX9_readEntry_7 : decode cX9_readEntry 7 = .ok (.bipush 16, 2) := by decide +kernel
theorem dX9_readEntry_9 : decode cX9_readEntry 9 = .ok (.if_icmp .lt 16, 3) := by decide +kernel
theorem dX9_readEntry_12 : decode cX9_readEntry 12 = .ok (.aload_n 0, 1) := by decide +kernel
theorem dX9_readEntry_13 : decode cX9_readEntry 13 = .ok (.invokevirtual 40, 3) := by decide +kernel
theorem dX9_readEntry_16 : decode cX9_readEntry 16 = .ok (.pop, 1) := by decide +kernel
theorem dX9_readEntry_17 : decode cX9_readEntry 17 = .ok (.aload_n 0, 1) := by decide +kernel
theorem dX9_readEntry_18 : decode cX9_readEntry 18 = .ok (.aload_n 0, 1) := by decide +kernel
theorem dX9_readEntry_19 : decode cX9_readEntry 19 = .ok (.getfield 29, 3) := by decide +kernel
theorem dX9_readEntry_22 : decode cX9_readEntry 22 = .ok (.invokevirtual 61, 3) := by decide +kernel
theorem dX9_readEntry_25 : decode cX9_readEntry 25 = .ok (.aload_n 0, 1) := by decide +kernel
theorem dX9_readEntry_26 : decode cX9_readEntry 26 = .ok (.bipush 58, 2) := by decide +kernel
theorem dX9_readEntry_28 : decode cX9_readEntry 28 = .ok (.invokevirtual 64, 3) := by decide +kernel
theorem dX9_readEntry_31 : decode cX9_readEntry 31 = .ok (.aload_n 0, 1) := by decide +kernel
theorem dX9_readEntry_32 : decode cX9_readEntry 32 = .ok (.iconst 0, 1) := by decide +kernel
theorem dX9_readEntry_33 : decode cX9_readEntry 33 = .ok (.bipush 7, 2) := by decide +kernel
theorem dX9_readEntry_35 : decode cX9_readEntry 35 = .ok (.invokevirtual 51, 3) := by decide +kernel
theorem dX9_readEntry_38 : decode cX9_readEntry 38 = .ok (.istore_n 2, 1) := by decide +kernel
theorem dX9_readEntry_39 : decode cX9_readEntry 39 = .ok (.aload_n 0, 1) := by decide +kernel
theorem dX9_readEntry_40 : decode cX9_readEntry 40 = .ok (.bipush 59, 2) := by decide +kernel
theorem dX9_readEntry_42 : decode cX9_readEntry 42 = .ok (.invokevirtual 64, 3) := by decide +kernel
theorem dX9_readEntry_45 : decode cX9_readEntry 45 = .ok (.aload_n 0, 1) := by decide +kernel
theorem dX9_readEntry_46 : decode cX9_readEntry 46 = .ok (.invokevirtual 36, 3) := by decide +kernel
theorem dX9_readEntry_49 : decode cX9_readEntry 49 = .ok (.ifCond .ne 19, 3) := by decide +kernel
theorem dX9_readEntry_52 : decode cX9_readEntry 52 = .ok (.aload_n 0, 1) := by decide +kernel
theorem dX9_readEntry_53 : decode cX9_readEntry 53 = .ok (.getfield 21, 3) := by decide +kernel
theorem dX9_readEntry_56 : decode cX9_readEntry 56 = .ok (.iload_n 1, 1) := by decide +kernel
theorem dX9_readEntry_57 : decode cX9_readEntry 57 = .ok (.iload_n 2, 1) := by decide +kernel
theorem dX9_readEntry_58 : decode cX9_readEntry 58 = .ok (.aload_n 0, 1) := by decide +kernel
theorem dX9_readEntry_59 : decode cX9_readEntry 59 = .ok (.getfield 21, 3) := by decide +kernel
theorem dX9_readEntry_62 : decode cX9_readEntry 62 = .ok (.getfield 82, 3) := by decide +kernel
theorem dX9_readEntry_65 : decode cX9_readEntry 65 = .ok (.invokevirtual 85, 3) := by decide +kernel
theorem dX9_readEntry_68 : decode cX9_readEntry 68 = .ok (.return_, 1) := by decide +kernel
set_option maxRecDepth 20000 in
theorem ggX9_readNumber_X9_next : GoodIn wsX9_readNumber wsX9_next := goodIn_r _ [11, 1, 2, 12, 13, 14, 15, 16, 17, 18, 34, 35, 36, 37, 38, 39] (by decide +kernel) (by decide +kernel)
set_option maxRecDepth 20000 in
theorem gX9_readNumber_X9_next : GoodIn wsX9_readNumber (wsV RX9 40 RX9 yX9_next wsX9_next) := goodIn_app (goodIn_of _ (by decide +kernel)) ggX9_readNumber_X9_next
set_option maxRecDepth 20000 in
theorem ggX9_readNumber_X8_characterAt : GoodIn wsX9_readNumber wsX8_characterAt := goodIn_r _ [16, 17, 18, 38, 39] (by decide +kernel) (by decide +kernel)
set_option maxRecDepth 20000 in
theorem gX9_readNumber_X8_characterAt : GoodIn wsX9_readNumber (wsV RX9 88 RX8 yX8_characterAt wsX8_characterAt) := goodIn_app (goodIn_of _ (by decide +kernel)) ggX9_readNumber_X8_characterAt
set_option maxRecDepth 20000 in
theorem ggX9_readNumber_X9_isDigit : GoodIn wsX9_readNumber wsX9_isDigit := goodIn_r _ [21] (by decide +kernel) (by decide +kernel)
set_option maxRecDepth 20000 in
theorem gX9_readNumber_X9_isDigit : GoodIn wsX9_readNumber (va_wsS RX9 92 yX9_isDigit wsX9_isDigit) := goodIn_app (goodIn_of _ (by decide +kernel)) ggX9_readNumber_X9_isDigit
set_option maxRecDepth 20000 in
theorem ggX9_readNumber_X10_isWithin : GoodIn wsX9_readNumber wsX10_isWithin := goodIn_r _ [24] (by decide +kernel) (by decide +kernel)
set_option maxRecDepth 20000 in
theorem gX9_readNumber_X10_isWithin_n101 : GoodIn wsX9_readNumber (wsX10_isWithin) := ggX9_readNumber_X10_isWithin
set_option maxRecDepth 20000 in
theorem ggX9_readNumber_X9_failAt : GoodIn wsX9_readNumber wsX9_failAt := goodIn_r _ [28, 29, 30, 31, 32, 10, 33, 34, 35, 36, 37] (by decide +kernel) (by decide +kernel)
set_option maxRecDepth 20000 in
theorem gX9_readNumber_X9_failAt : GoodIn wsX9_readNumber (wsV RX9 61 RX9 yX9_failAt wsX9_failAt) := goodIn_app (goodIn_of _ (by decide +kernel)) ggX9_readNumber_X9_failAt
theorem dX9_readNumber_0 : decode cX9_readNumber 0 = .ok (.aload_n 0, 1) := by decide +kernel
theorem dX9_readNumber_1 : decode cX9_readNumber 1 = .ok (.invokevirtual 40, 3) := by decide +kernel
theorem dX9_readNumber_4 : decode cX9_readNumber 4 = .ok (.istore_n 3, 1) := by decide +kernel
theorem dX9_readNumber_5 : decode cX9_readNumber 5 = .ok (.aload_n 0, 1) := by decide +kernel
theorem dX9_readNumber_6 : decode cX9_readNumber 6 = .ok (.getfield 29, 3) := by decide +kernel
theorem dX9_readNumber_9 : decode cX9_readNumber 9 = .ok (.istore 4, 2) := by decide +kernel
theorem dX9_readNumber_11 : decode cX9_readNumber 11 = .ok (.iconst 0, 1) := by decide +kernel
theorem dX9_readNumber_12 : decode cX9_readNumber 12 = .ok (.istore 5, 2) := by decide +kernel
theorem dX9_readNumber_14 : decode cX9_readNumber 14 = .ok (.aload_n 0, 1) := by decide +kernel
theorem dX9_readNumber_15 : decode cX9_readNumber 15 = .ok (.getfield 29, 3) := by decide +kernel
theorem dX9_readNumber_18 : decode cX9_readNumber 18 = .ok (.sipush 140, 3) := by decide +kernel
theorem dX9_readNumber_21 : decode cX9_readNumber 21 = .ok (.if_icmp .ge 61, 3) := by decide +kernel
theorem dX9_readNumber_24 : decode cX9_readNumber 24 = .ok (.aload_n 0, 1) := by decide +kernel
theorem dX9_readNumber_25 : decode cX9_readNumber 25 = .ok (.getfield 12, 3) := by decide +kernel
theorem dX9_readNumber_28 : decode cX9_readNumber 28 = .ok (.aload_n 0, 1) := by decide +kernel
theorem dX9_readNumber_29 : decode cX9_readNumber 29 = .ok (.getfield 29, 3) := by decide +kernel
theorem dX9_readNumber_32 : decode cX9_readNumber 32 = .ok (.invokevirtual 88, 3) := by decide +kernel
theorem dX9_readNumber_35 : decode cX9_readNumber 35 = .ok (.invokestatic 92, 3) := by decide +kernel
theorem dX9_readNumber_38 : decode cX9_readNumber 38 = .ok (.ifCond .eq 44, 3) := by decide +kernel
theorem dX9_readNumber_41 : decode cX9_readNumber 41 = .ok (.iload 5, 2) := by decide +kernel
theorem dX9_readNumber_43 : decode cX9_readNumber 43 = .ok (.bipush 10, 2) := by decide +kernel
theorem dX9_readNumber_45 : decode cX9_readNumber 45 = .ok (.imul, 1) := by decide +kernel
theorem dX9_readNumber_46 : decode cX9_readNumber 46 = .ok (.aload_n 0, 1) := by decide +kernel
theorem dX9_readNumber_47 : decode cX9_readNumber 47 = .ok (.getfield 12, 3) := by decide +kernel
theorem dX9_readNumber_50 : decode cX9_readNumber 50 = .ok (.aload_n 0, 1) := by decide +kernel
theorem dX9_readNumber_51 : decode cX9_readNumber 51 = .ok (.getfield 29, 3) := by decide +kernel
theorem dX9_readNumber_54 : decode cX9_readNumber 54 = .ok (.invokevirtual 88, 3) := by decide +kernel
theorem dX9_readNumber_57 : decode cX9_readNumber 57 = .ok (.iadd, 1) := by decide +kernel
theorem dX9_readNumber_58 : decode cX9_readNumber 58 = .ok (.bipush 48, 2) := by decide +kernel
theorem dX9_readNumber_60 : decode cX9_readNumber 60 = .ok (.isub, 1) := by decide +kernel
theorem dX9_readNumber_61 : decode cX9_readNumber 61 = .ok (.sipush 10000, 3) := by decide +kernel
theorem dX9_readNumber_64 : decode cX9_readNumber 64 = .ok (.invokestatic 96, 3) := by decide +kernel
theorem dX9_readNumber_67 : decode cX9_readNumber 67 = .ok (.istore 5, 2) := by decide +kernel
theorem dX9_readNumber_69 : decode cX9_readNumber 69 = .ok (.aload_n 0, 1) := by decide +kernel
theorem dX9_readNumber_70 : decode cX9_readNumber 70 = .ok (.dup, 1) := by decide +kernel
theorem dX9_readNumber_71 : decode cX9_readNumber 71 = .ok (.getfield 29, 3) := by decide +kernel
theorem dX9_readNumber_74 : decode cX9_readNumber 74 = .ok (.iconst 1, 1) := by decide +kernel
theorem dX9_readNumber_75 : decode cX9_readNumber 75 = .ok (.iadd, 1) := by decide +kernel
theorem dX9_readNumber_76 : decode cX9_readNumber 76 = .ok (.putfield 29, 3) := by decide +kernel
theorem dX9_readNumber_79 : decode cX9_readNumber 79 = .ok (.goto (-65), 3) := by decide +kernel
theorem dX9_readNumber_82 : decode cX9_readNumber 82 = .ok (.iload_n 3, 1) := by decide +kernel
theorem dX9_readNumber_83 : decode cX9_readNumber 83 = .ok (.bipush 48, 2) := by decide +kernel
theorem dX9_readNumber_85 : decode cX9_readNumber 85 = .ok (.if_icmp .ne 18, 3) := by decide +kernel
theorem dX9_readNumber_88 : decode cX9_readNumber 88 = .ok (.aload_n 0, 1) := by decide +kernel
theorem dX9_readNumber_89 : decode cX9_readNumber 89 = .ok (.getfield 29, 3) := by decide +kernel
theorem dX9_readNumber_92 : decode cX9_readNumber 92 = .ok (.iload 4, 2) := by decide +kernel
theorem dX9_readNumber_94 : decode cX9_readNumber 94 = .ok (.isub, 1) := by decide +kernel
theorem dX9_readNumber_95 : decode cX9_readNumber 95 = .ok (.iconst 1, 1) := by decide +kernel
theorem dX9_readNumber_96 : decode cX9_readNumber 96 = .ok (.if_icmp .le 7, 3) := by decide +kernel
theorem dX9_readNumber_99 : decode cX9_readNumber 99 = .ok (.iconst 1, 1) := by decide +kernel
theorem dX9_readNumber_100 : decode cX9_readNumber 100 = .ok (.goto 4, 3) := by decide +kernel
theorem dX9_readNumber_103 : decode cX9_readNumber 103 = .ok (.iconst 0, 1) := by decide +kernel
theorem dX9_readNumber_104 : decode cX9_readNumber 104 = .ok (.istore 6, 2) := by decide +kernel
theorem dX9_readNumber_106 : decode cX9_readNumber 106 = .ok (.aload_n 0, 1) := by decide +kernel
theorem dX9_readNumber_107 : decode cX9_readNumber 107 = .ok (.getfield 29, 3) := by decide +kernel
theorem dX9_readNumber_110 : decode cX9_readNumber 110 = .ok (.iload 4, 2) := by decide +kernel
theorem dX9_readNumber_112 : decode cX9_readNumber 112 = .ok (.if_icmp .eq 18, 3) := by decide +kernel
theorem dX9_readNumber_115 : decode cX9_readNumber 115 = .ok (.iload 6, 2) := by decide +kernel
theorem dX9_readNumber_117 : decode cX9_readNumber 117 = .ok (.ifCond .ne 13, 3) := by decide +kernel
theorem dX9_readNumber_120 : decode cX9_readNumber 120 = .ok (.iload 5, 2) := by decide +kernel
theorem dX9_readNumber_122 : decode cX9_readNumber 122 = .ok (.iload_n 1, 1) := by decide +kernel
theorem dX9_readNumber_123 : decode cX9_readNumber 123 = .ok (.iload_n 2, 1) := by decide +kernel
theorem dX9_readNumber_124 : decode cX9_readNumber 124 = .ok (.invokestatic 101, 3) := by decide +kernel
theorem dX9_readNumber_127 : decode cX9_readNumber 127 = .ok (.ifCond .ne 9, 3) := by decide +kernel
theorem dX9_readNumber_130 : decode cX9_readNumber 130 = .ok (.aload_n 0, 1) := by decide +kernel
theorem dX9_readNumber_131 : decode cX9_readNumber 131 = .ok (.iload 4, 2) := by decide +kernel
theorem dX9_readNumber_133 : decode cX9_readNumber 133 = .ok (.invokevirtual 61, 3) := by decide +kernel
theorem dX9_readNumber_136 : decode cX9_readNumber 136 = .ok (.iload 5, 2) := by decide +kernel
theorem dX9_readNumber_138 : decode cX9_readNumber 138 = .ok (.ireturn, 1) := by decide +kernel
set_option maxRecDepth 20000 in
theorem ggX9_expect_X9_next : GoodIn wsX9_expect wsX9_next := goodIn_r _ [6, 1, 7, 8, 9, 10, 11, 12, 13, 14, 24, 25, 26, 27, 28, 29] (by decide +kernel) (by decide +kernel)
set_option maxRecDepth 20000 in
theorem gX9_expect_X9_next : GoodIn wsX9_expect (wsV RX9 40 RX9 yX9_next wsX9_next) := goodIn_app (goodIn_of _ (by decide +kernel)) ggX9_expect_X9_next
set_option maxRecDepth 20000 in
theorem ggX9_expect_X9_failAt : GoodIn wsX9_expect wsX9_failAt := goodIn_r _ [18, 19, 20, 21, 22, 5, 23, 24, 25, 26, 27] (by decide +kernel) (by decide +kernel)
set_option maxRecDepth 20000 in
theorem gX9_expect_X9_failAt : GoodIn wsX9_expect (wsV RX9 61 RX9 yX9_failAt wsX9_failAt) := goodIn_app (goodIn_of _ (by decide +kernel)) ggX9_expect_X9_failAt
theorem dX9_expect_0 : decode cX9_expect 0 = .ok (.aload_n 0, 1) := by decide +kernel
theorem dX9_expect_1 : decode cX9_expect 1 = .ok (.invokevirtual 40, 3) := by decide +kernel
theorem dX9_expect_4 : decode cX9_expect 4 = .ok (.iload_n 1, 1) := by decide +kernel
theorem dX9_expect_5 : decode cX9_expect 5 = .ok (.if_icmp .ne 16, 3) := by decide +kernel
theorem dX9_expect_8 : decode cX9_expect 8 = .ok (.aload_n 0, 1) := by decide +kernel
theorem dX9_expect_9 : decode cX9_expect 9 = .ok (.dup, 1) := by decide +kernel
theorem dX9_expect_10 : decode cX9_expect 10 = .ok (.getfield 29, 3) := by decide +kernel
theorem dX9_expect_13 : decode cX9_expect 13 = .ok (.iconst 1, 1) := by decide +kernel
theorem dX9_expect_14 : decode cX9_expect 14 = .ok (.iadd, 1) := by decide +kernel
theorem dX9_expect_15 : decode cX9_expect 15 = .ok (.putfield 29, 3) := by decide +kernel
theorem dX9_expect_18 : decode cX9_expect 18 = .ok (.goto 11, 3) := by decide +kernel
theorem dX9_expect_21 : decode cX9_expect 21 = .ok (.aload_n 0, 1) := by decide +kernel
theorem dX9_expect_22 : decode cX9_expect 22 = .ok (.aload_n 0, 1) := by decide +kernel
theorem dX9_expect_23 : decode cX9_expect 23 = .ok (.getfield 29, 3) := by decide +kernel
theorem dX9_expect_26 : decode cX9_expect 26 = .ok (.invokevirtual 61, 3) := by decide +kernel
theorem dX9_expect_29 : decode cX9_expect 29 = .ok (.return_, 1) := by decide +kernel
set_option maxRecDepth 20000 in
theorem ggX9_next_X8_characterAt : GoodIn wsX9_next wsX8_characterAt := goodIn_r _ [7, 8, 9, 14, 15] (by decide +kernel) (by decide +kernel)
set_option maxRecDepth 20000 in
theorem gX9_next_X8_characterAt : GoodIn wsX9_next (wsV RX9 88 RX8 yX8_characterAt wsX8_characterAt) := goodIn_app (goodIn_of _ (by decide +kernel)) ggX9_next_X8_characterAt
theorem dX9_next_0 : decode cX9_next 0 = .ok (.aload_n 0, 1) := by decide +kernel
theorem dX9_next_1 : decode cX9_next 1 = .ok (.getfield 29, 3) := by decide +kernel
theorem dX9_next_4 : decode cX9_next 4 = .ok (.sipush 140, 3) := by decide +kernel
theorem dX9_next_7 : decode cX9_next 7 = .ok (.if_icmp .ge 32, 3) := by decide +kernel
theorem dX9_next_10 : decode cX9_next 10 = .ok (.aload_n 0, 1) := by decide +kernel
theorem dX9_next_11 : decode cX9_next 11 = .ok (.getfield 12, 3) := by decide +kernel
theorem dX9_next_14 : decode cX9_next 14 = .ok (.aload_n 0, 1) := by decide +kernel
theorem dX9_next_15 : decode cX9_next 15 = .ok (.getfield 29, 3) := by decide +kernel
theorem dX9_next_18 : decode cX9_next 18 = .ok (.invokevirtual 88, 3) := by decide +kernel
theorem dX9_next_21 : decode cX9_next 21 = .ok (.bipush 32, 2) := by decide +kernel
theorem dX9_next_23 : decode cX9_next 23 = .ok (.if_icmp .ne 16, 3) := by decide +kernel
theorem dX9_next_26 : decode cX9_next 26 = .ok (.aload_n 0, 1) := by decide +kernel
theorem dX9_next_27 : decode cX9_next 27 = .ok (.dup, 1) := by decide +kernel
theorem dX9_next_28 : decode cX9_next 28 = .ok (.getfield 29, 3) := by decide +kernel
theorem dX9_next_31 : decode cX9_next 31 = .ok (.iconst 1, 1) := by decide +kernel
theorem dX9_next_32 : decode cX9_next 32 = .ok (.iadd, 1) := by decide +kernel
theorem dX9_next_33 : decode cX9_next 33 = .ok (.putfield 29, 3) := by decide +kernel
theorem dX9_next_36 : decode cX9_next 36 = .ok (.goto (-36), 3) := by decide +kernel
theorem dX9_next_39 : decode cX9_next 39 = .ok (.aload_n 0, 1) := by decide +kernel
theorem dX9_next_40 : decode cX9_next 40 = .ok (.getfield 12, 3) := by decide +kernel
theorem dX9_next_43 : decode cX9_next 43 = .ok (.aload_n 0, 1) := by decide +kernel
theorem dX9_next_44 : decode cX9_next 44 = .ok (.getfield 29, 3) := by decide +kernel
theorem dX9_next_47 : decode cX9_next 47 = .ok (.invokevirtual 88, 3) := by decide +kernel
theorem dX9_next_50 : decode cX9_next 50 = .ok (.ireturn, 1) := by decide +kernel
set_option maxRecDepth 20000 in
theorem ggX9_failAt_X9_hasFailed : GoodIn wsX9_failAt wsX9_hasFailed := goodIn_r _ [6, 1, 7, 8, 9, 10] (by decide +kernel) (by decide +kernel)
set_option maxRecDepth 20000 in
theorem gX9_failAt_X9_hasFailed : GoodIn wsX9_failAt (wsV RX9 36 RX9 yX9_hasFailed wsX9_hasFailed) := goodIn_app (goodIn_of _ (by decide +kernel)) ggX9_failAt_X9_hasFailed
theorem dX9_failAt_0 : decode cX9_failAt 0 = .ok (.aload_n 0, 1) := by decide +kernel
theorem dX9_failAt_1 : decode cX9_failAt 1 = .ok (.invokevirtual 36, 3) := by decide +kernel
theorem dX9_failAt_4 : decode cX9_failAt 4 = .ok (.ifCond .ne 8, 3) := by decide +kernel
theorem dX9_failAt_7 : decode cX9_failAt 7 = .ok (.aload_n 0, 1) := by decide +kernel
theorem dX9_failAt_8 : decode cX9_failAt 8 = .ok (.iload_n 1, 1) := by decide +kernel
theorem dX9_failAt_9 : decode cX9_failAt 9 = .ok (.putfield 33, 3) := by decide +kernel
theorem dX9_failAt_12 : decode cX9_failAt 12 = .ok (.return_, 1) := by decide +kernel
theorem dX9_isDigit_0 : decode cX9_isDigit 0 = .ok (.iload_n 0, 1) := by decide +kernel
theorem dX9_isDigit_1 : decode cX9_isDigit 1 = .ok (.bipush 48, 2) := by decide +kernel
theorem dX9_isDigit_3 : decode cX9_isDigit 3 = .ok (.if_icmp .lt 13, 3) := by decide +kernel
theorem dX9_isDigit_6 : decode cX9_isDigit 6 = .ok (.iload_n 0, 1) := by decide +kernel
theorem dX9_isDigit_7 : decode cX9_isDigit 7 = .ok (.bipush 57, 2) := by decide +kernel
theorem dX9_isDigit_9 : decode cX9_isDigit 9 = .ok (.if_icmp .gt 7, 3) := by decide +kernel
theorem dX9_isDigit_12 : decode cX9_isDigit 12 = .ok (.iconst 1, 1) := by decide +kernel
theorem dX9_isDigit_13 : decode cX9_isDigit 13 = .ok (.goto 4, 3) := by decide +kernel
theorem dX9_isDigit_16 : decode cX9_isDigit 16 = .ok (.iconst 0, 1) := by decide +kernel
theorem dX9_isDigit_17 : decode cX9_isDigit 17 = .ok (.ireturn, 1) := by decide +kernel
set_option maxRecDepth 20000 in
theorem ggX10_init_X6_init : GoodIn wsX10_init wsX6_init := goodIn_r _ [30, 31, 2, 3, 32, 21, 22, 33, 34, 35, 36, 37, 38, 39, 40, 41, 42, 43, 44, 45, 46, 47, 48, 49, 50, 51, 52, 53, 54, 55, 56, 57, 58, 59, 60, 61, 62, 63, 64, 65, 66, 67, 68, 69, 70, 71, 72, 73, 74, 75, 76, 77, 78, 79, 80, 81, 82, 83, 84, 85, 144, 145, 146, 147, 120, 121, 122, 123, 124, 125, 126, 152, 153, 154, 155, 156, 157, 158] (by decide +kernel) (by decide +kernel)
set_option maxRecDepth 20000 in
theorem gX10_init_X6_init : GoodIn wsX10_init (wsX6_init) := ggX10_init_X6_init
set_option maxRecDepth 20000 in
theorem ggX10_init_X1_init : GoodIn wsX10_init wsX1_init := goodIn_r _ [88, 89, 2, 3, 90, 91, 5, 6, 92, 29, 30, 31, 32, 21, 22, 33, 34, 35, 36, 37, 38, 39, 40, 41, 42, 43, 44, 45, 46, 47, 48, 49, 50, 51, 52, 53, 54, 55, 56, 57, 58, 59, 60, 61, 62, 63, 64, 65, 66, 67, 68, 69, 70, 71, 72, 73, 74, 75, 76, 77, 78, 79, 80, 81, 82, 83, 84, 85, 133, 134, 135, 120, 121, 122, 123, 124, 125, 126, 144, 145, 146, 147, 152, 153, 154, 155, 156, 157, 158] (by decide +kernel) (by decide +kernel)
set_option maxRecDepth 20000 in
theorem gX10_init_X1_init : GoodIn wsX10_init (wsX1_init) := ggX10_init_X1_init
set_option maxRecDepth 20000 in
theorem ggX10_init_X0_init : GoodIn wsX10_init wsX0_init := goodIn_r _ [94, 95, 2, 3] (by decide +kernel) (by decide +kernel)
set_option maxRecDepth 20000 in
theorem gX10_init_X0_init_n25 : GoodIn wsX10_init (wsX0_init) := ggX10_init_X0_init
set_option maxRecDepth 20000 in
theorem ggX10_init_X5_init : GoodIn wsX10_init wsX5_init := goodIn_r _ [97, 98, 2, 3, 99, 39, 40, 100, 101, 102, 103, 58, 59, 60, 61, 62, 63, 64, 65, 66, 67, 155, 156, 141, 142, 143] (by decide +kernel) (by decide +kernel)
set_option maxRecDepth 20000 in
theorem gX10_init_X5_init_n32 : GoodIn wsX10_init (wsX5_init) := ggX10_init_X5_init
set_option maxRecDepth 20000 in
theorem ggX10_init_X3_init : GoodIn wsX10_init wsX3_init := goodIn_r _ [51, 52, 2, 3, 53, 39, 40, 54, 55, 56, 57, 58, 59, 60, 61, 62, 63, 64, 65, 66, 67, 68, 69, 70, 71, 155, 156, 144, 145, 146, 147] (by decide +kernel) (by decide +kernel)
set_option maxRecDepth 20000 in
theorem gX10_init_X3_init : GoodIn wsX10_init (wsX3_init) := ggX10_init_X3_init
set_option maxRecDepth 20000 in
theorem ggX10_init_X9_init : GoodIn wsX10_init wsX9_init := goodIn_r _ [106, 107, 2, 3, 108, 109, 110, 111, 112, 21, 22, 113, 114, 115, 116, 117, 118, 119, 50, 51, 52, 53, 39, 40, 54, 55, 56, 57, 58, 59, 60, 61, 62, 63, 64, 65, 66, 67, 68, 69, 70, 71, 159, 160, 148, 149, 150, 151, 144, 145, 146, 147, 155, 156] (by decide +kernel) (by decide +kernel)
set_option maxRecDepth 20000 in
theorem gX10_init_X9_init_n46 : GoodIn wsX10_init (wsX9_init) := ggX10_init_X9_init
theorem dX10_init_0 : decode cX10_init 0 = .ok (.aload_n 0, 1) := by decide +kernel
theorem dX10_init_1 : decode cX10_init 1 = .ok (.invokespecial 1, 3) := by decide +kernel
theorem dX10_init_4 : decode cX10_init 4 = .ok (.aload_n 0, 1) := by decide +kernel
theorem dX10_init_5 : decode cX10_init 5 = .ok (.new 7, 3) := by decide +kernel
theorem dX10_init_8 : decode cX10_init 8 = .ok (.dup, 1) := by decide +kernel
theorem dX10_init_9 : decode cX10_init 9 = .ok (.invokespecial 9, 3) := by decide +kernel
theorem dX10_init_12 : decode cX10_init 12 = .ok (.putfield 10, 3) := by decide +kernel
theorem dX10_init_15 : decode cX10_init 15 = .ok (.aload_n 0, 1) := by decide +kernel
theorem dX10_init_16 : decode cX10_init 16 = .ok (.new 16, 3) := by decide +kernel
theorem dX10_init_19 : decode cX10_init 19 = .ok (.dup, 1) := by decide +kernel
theorem dX10_init_20 : decode cX10_init 20 = .ok (.invokespecial 18, 3) := by decide +kernel
theorem dX10_init_23 : decode cX10_init 23 = .ok (.putfield 19, 3) := by decide +kernel
theorem dX10_init_26 : decode cX10_init 26 = .ok (.aload_n 0, 1) := by decide +kernel
theorem dX10_init_27 : decode cX10_init 27 = .ok (.new 23, 3) := by decide +kernel
theorem dX10_init_30 : decode cX10_init 30 = .ok (.dup, 1) := by decide +kernel
theorem dX10_init_31 : decode cX10_init 31 = .ok (.invokespecial 25, 3) := by decide +kernel
theorem dX10_init_34 : decode cX10_init 34 = .ok (.putfield 26, 3) := by decide +kernel
theorem dX10_init_37 : decode cX10_init 37 = .ok (.aload_n 0, 1) := by decide +kernel
theorem dX10_init_38 : decode cX10_init 38 = .ok (.new 30, 3) := by decide +kernel
theorem dX10_init_41 : decode cX10_init 41 = .ok (.dup, 1) := by decide +kernel
theorem dX10_init_42 : decode cX10_init 42 = .ok (.invokespecial 32, 3) := by decide +kernel
theorem dX10_init_45 : decode cX10_init 45 = .ok (.putfield 33, 3) := by decide +kernel
theorem dX10_init_48 : decode cX10_init 48 = .ok (.aload_n 0, 1) := by decide +kernel
theorem dX10_init_49 : decode cX10_init 49 = .ok (.new 37, 3) := by decide +kernel
theorem dX10_init_52 : decode cX10_init 52 = .ok (.dup, 1) := by decide +kernel
theorem dX10_init_53 : decode cX10_init 53 = .ok (.invokespecial 39, 3) := by decide +kernel
theorem dX10_init_56 : decode cX10_init 56 = .ok (.putfield 40, 3) := by decide +kernel
theorem dX10_init_59 : decode cX10_init 59 = .ok (.aload_n 0, 1) := by decide +kernel
theorem dX10_init_60 : decode cX10_init 60 = .ok (.new 44, 3) := by decide +kernel
theorem dX10_init_63 : decode cX10_init 63 = .ok (.dup, 1) := by decide +kernel
theorem dX10_init_64 : decode cX10_init 64 = .ok (.invokespecial 46, 3) := by decide +kernel
theorem dX10_init_67 : decode cX10_init 67 = .ok (.putfield 47, 3) := by decide +kernel
theorem dX10_init_70 : decode cX10_init 70 = .ok (.return_, 1) := by decide +kernel
set_option maxRecDepth 20000 in
theorem ggX10_setSource_X10_isChannel : GoodIn wsX10_setSource wsX10_isChannel := goodIn_r _ [9, 10, 11, 8, 12] (by decide +kernel) (by decide +kernel)
set_option maxRecDepth 20000 in
theorem gX10_setSource_X10_isChannel : GoodIn wsX10_setSource (va_wsS RX10 51 yX10_isChannel wsX10_isChannel) := goodIn_app (goodIn_of _ (by decide +kernel)) ggX10_setSource_X10_isChannel
set_option maxRecDepth 20000 in
theorem ggX10_setSource_X10_isSource : GoodIn wsX10_setSource wsX10_isSource := goodIn_r _ [15, 10, 11, 8, 12] (by decide +kernel) (by decide +kernel)
set_option maxRecDepth 20000 in
theorem gX10_setSource_X10_isSource : GoodIn wsX10_setSource (va_wsS RX10 55 yX10_isSource wsX10_isSource) := goodIn_app (goodIn_of _ (by decide +kernel)) ggX10_setSource_X10_isSource
set_option maxRecDepth 20000 in
theorem ggX10_setSource_X1_keep : GoodIn wsX10_setSource wsX1_keep := goodIn_r _ [20, 21, 22, 23, 24, 25, 26, 27, 28, 29, 19, 30, 31, 32, 33, 34, 35, 36, 37, 38, 39, 40, 41, 42, 43, 44, 45, 46, 47, 48, 49, 50, 51, 52, 53, 54, 55, 56, 57, 58, 59, 60, 61, 62, 63, 64, 65, 66, 67, 68, 69, 70, 71, 72, 73, 74, 75, 76, 77, 78, 79, 80, 81, 112, 113, 114, 101, 102, 103, 104, 105, 106, 107, 108, 109, 110, 111, 115, 116, 117, 118, 119, 120, 121] (by decide +kernel) (by decide +kernel)
set_option maxRecDepth 20000 in
theorem gX10_setSource_X1_keep : GoodIn wsX10_setSource (wsV RX10 60 RX1 yX1_keep wsX1_keep) := goodIn_app (goodIn_of _ (by decide +kernel)) ggX10_setSource_X1_keep
set_option maxRecDepth 20000 in
theorem ggX10_setSource_X7_at : GoodIn wsX10_setSource wsX7_at := goodIn_r _ [85, 86, 58, 115, 116] (by decide +kernel) (by decide +kernel)
set_option maxRecDepth 20000 in
theorem gX10_setSource_X7_at : GoodIn wsX10_setSource (wsV RX10 71 RX7 yX7_at wsX7_at) := goodIn_app (goodIn_of _ (by decide +kernel)) ggX10_setSource_X7_at
set_option maxRecDepth 20000 in
theorem ggX10_setSource_X3_putSource : GoodIn wsX10_setSource wsX3_putSource := goodIn_r _ [90, 49, 91, 92, 93, 56, 94, 86, 58, 108, 109, 110, 111, 115, 116] (by decide +kernel) (by decide +kernel)
set_option maxRecDepth 20000 in
theorem gX10_setSource_X3_putSource : GoodIn wsX10_setSource (wsV RX10 77 RX3 yX3_putSource wsX3_putSource) := goodIn_app (goodIn_of _ (by decide +kernel)) ggX10_setSource_X3_putSource
theorem dX10_setSource_0 : decode cX10_setSource 0 = .ok (.iload_n 1, 1) := by decide +kernel
theorem dX10_setSource_1 : decode cX10_setSource 1 = .ok (.invokestatic 51, 3) := by decide +kernel
theorem dX10_setSource_4 : decode cX10_setSource 4 = .ok (.ifCond .eq 15, 3) := by decide +kernel
theorem dX10_setSource_7 : decode cX10_setSource 7 = .ok (.iload_n 2, 1) := by decide +kernel
theorem dX10_setSource_8 : decode cX10_setSource 8 = .ok (.iload_n 3, 1) := by decide +kernel
theorem dX10_setSource_9 : decode cX10_setSource 9 = .ok (.iload 4, 2) := by decide +kernel
theorem dX10_setSource_11 : decode cX10_setSource 11 = .ok (.iload 5, 2) := by decide +kernel
theorem dX10_setSource_13 : decode cX10_setSource 13 = .ok (.invokestatic 55, 3) := by decide +kernel
theorem dX10_setSource_16 : decode cX10_setSource 16 = .ok (.ifCond .ne 6, 3) := by decide +kernel
theorem dX10_setSource_19 : decode cX10_setSource 19 = .ok (.ldc 59, 2) := by decide +kernel
theorem dX10_setSource_21 : decode cX10_setSource 21 = .ok (.ireturn, 1) := by decide +kernel
theorem dX10_setSource_22 : decode cX10_setSource 22 = .ok (.aload_n 0, 1) := by decide +kernel
theorem dX10_setSource_23 : decode cX10_setSource 23 = .ok (.getfield 19, 3) := by decide +kernel
theorem dX10_setSource_26 : decode cX10_setSource 26 = .ok (.aload_n 0, 1) := by decide +kernel
theorem dX10_setSource_27 : decode cX10_setSource 27 = .ok (.getfield 10, 3) := by decide +kernel
theorem dX10_setSource_30 : decode cX10_setSource 30 = .ok (.invokevirtual 60, 3) := by decide +kernel
theorem dX10_setSource_33 : decode cX10_setSource 33 = .ok (.aload_n 0, 1) := by decide +kernel
theorem dX10_setSource_34 : decode cX10_setSource 34 = .ok (.getfield 10, 3) := by decide +kernel
theorem dX10_setSource_37 : decode cX10_setSource 37 = .ok (.getfield 64, 3) := by decide +kernel
theorem dX10_setSource_40 : decode cX10_setSource 40 = .ok (.getfield 67, 3) := by decide +kernel
theorem dX10_setSource_43 : decode cX10_setSource 43 = .ok (.iload_n 1, 1) := by decide +kernel
theorem dX10_setSource_44 : decode cX10_setSource 44 = .ok (.iconst 0, 1) := by decide +kernel
theorem dX10_setSource_45 : decode cX10_setSource 45 = .ok (.invokevirtual 71, 3) := by decide +kernel
theorem dX10_setSource_48 : decode cX10_setSource 48 = .ok (.istore 6, 2) := by decide +kernel
theorem dX10_setSource_50 : decode cX10_setSource 50 = .ok (.aload_n 0, 1) := by decide +kernel
theorem dX10_setSource_51 : decode cX10_setSource 51 = .ok (.getfield 10, 3) := by decide +kernel
theorem dX10_setSource_54 : decode cX10_setSource 54 = .ok (.getfield 64, 3) := by decide +kernel
theorem dX10_setSource_57 : decode cX10_setSource 57 = .ok (.iload_n 1, 1) := by decide +kernel
theorem dX10_setSource_58 : decode cX10_setSource 58 = .ok (.iload_n 2, 1) := by decide +kernel
theorem dX10_setSource_59 : decode cX10_setSource 59 = .ok (.iload_n 3, 1) := by decide +kernel
theorem dX10_setSource_60 : decode cX10_setSource 60 = .ok (.iload 4, 2) := by decide +kernel
theorem dX10_setSource_62 : decode cX10_setSource 62 = .ok (.iload 5, 2) := by decide +kernel
theorem dX10_setSource_64 : decode cX10_setSource 64 = .ok (.invokevirtual 77, 3) := by decide +kernel
theorem dX10_setSource_67 : decode cX10_setSource 67 = .ok (.iload 6, 2) := by decide +kernel
theorem dX10_setSource_69 : decode cX10_setSource 69 = .ok (.ireturn, 1) := by decide +kernel
set_option maxRecDepth 20000 in
theorem ggX10_setResistance_X10_isChannel : GoodIn wsX10_setResistance wsX10_isChannel := goodIn_r _ [9, 10, 11, 8, 12] (by decide +kernel) (by decide +kernel)
set_option maxRecDepth 20000 in
theorem gX10_setResistance_X10_isChannel : GoodIn wsX10_setResistance (va_wsS RX10 51 yX10_isChannel wsX10_isChannel) := goodIn_app (goodIn_of _ (by decide +kernel)) ggX10_setResistance_X10_isChannel
set_option maxRecDepth 20000 in
theorem ggX10_setResistance_X10_isWithin : GoodIn wsX10_setResistance wsX10_isWithin := goodIn_r _ [12] (by decide +kernel) (by decide +kernel)
set_option maxRecDepth 20000 in
theorem gX10_setResistance_X10_isWithin : GoodIn wsX10_setResistance (va_wsS RX10 81 yX10_isWithin wsX10_isWithin) := goodIn_app (goodIn_of _ (by decide +kernel)) ggX10_setResistance_X10_isWithin
set_option maxRecDepth 20000 in
theorem ggX10_setResistance_X1_keep : GoodIn wsX10_setResistance wsX1_keep := goodIn_r _ [17, 18, 19, 20, 21, 22, 23, 24, 25, 26, 16, 27, 28, 29, 30, 31, 32, 33, 34, 35, 36, 37, 38, 39, 40, 41, 42, 43, 44, 45, 46, 47, 48, 49, 50, 51, 52, 53, 54, 55, 56, 57, 58, 59, 60, 61, 62, 63, 64, 65, 66, 67, 68, 69, 70, 71, 72, 73, 74, 75, 76, 77, 78, 105, 106, 107, 94, 95, 96, 97, 98, 99, 100, 101, 102, 103, 104, 108, 109, 110, 111, 112, 113, 114] (by decide +kernel) (by decide +kernel)
set_option maxRecDepth 20000 in
theorem gX10_setResistance_X1_keep : GoodIn wsX10_setResistance (wsV RX10 60 RX1 yX1_keep wsX1_keep) := goodIn_app (goodIn_of _ (by decide +kernel)) ggX10_setResistance_X1_keep
set_option maxRecDepth 20000 in
theorem ggX10_setResistance_X7_at : GoodIn wsX10_setResistance wsX7_at := goodIn_r _ [82, 83, 55, 108, 109] (by decide +kernel) (by decide +kernel)
set_option maxRecDepth 20000 in
theorem gX10_setResistance_X7_at : GoodIn wsX10_setResistance (wsV RX10 71 RX7 yX7_at wsX7_at) := goodIn_app (goodIn_of _ (by decide +kernel)) ggX10_setResistance_X7_at
set_option maxRecDepth 20000 in
theorem ggX10_setResistance_X7_put : GoodIn wsX10_setResistance wsX7_put := goodIn_r _ [87, 83, 55, 108, 109] (by decide +kernel) (by decide +kernel)
set_option maxRecDepth 20000 in
theorem gX10_setResistance_X7_put : GoodIn wsX10_setResistance (wsV RX10 85 RX7 yX7_put wsX7_put) := goodIn_app (goodIn_of _ (by decide +kernel)) ggX10_setResistance_X7_put
theorem dX10_setResistance_0 : decode cX10_setResistance 0 = .ok (.iload_n 1, 1) := by decide +kernel
theorem dX10_setResistance_1 : decode cX10_setResistance 1 = .ok (.invokestatic 51, 3) := by decide +kernel
theorem dX10_setResistance_4 : decode cX10_setResistance 4 = .ok (.ifCond .eq 13, 3) := by decide +kernel
theorem dX10_setResistance_7 : decode cX10_setResistance 7 = .ok (.iload_n 2, 1) := by decide +kernel
theorem dX10_setResistance_8 : decode cX10_setResistance 8 = .ok (.iconst 0, 1) := by decide +kernel
theorem dX10_setResistance_9 : decode cX10_setResistance 9 = .ok (.bipush 31, 2) := by decide +kernel
theorem dX10_setResistance_11 : decode cX10_setResistance 11 = .ok (.invokestatic 81, 3) := by decide +kernel
theorem dX10_setResistance_14 : decode cX10_setResistance 14 = .ok (.ifCond .ne 6, 3) := by decide +kernel
theorem dX10_setResistance_17 : decode cX10_setResistance 17 = .ok (.ldc 59, 2) := by decide +kernel
theorem dX10_setResistance_19 : decode cX10_setResistance 19 = .ok (.ireturn, 1) := by decide +kernel
theorem dX10_setResistance_20 : decode cX10_setResistance 20 = .ok (.aload_n 0, 1) := by decide +kernel
theorem dX10_setResistance_21 : decode cX10_setResistance 21 = .ok (.getfield 19, 3) := by decide +kernel
theorem dX10_setResistance_24 : decode cX10_setResistance 24 = .ok (.aload_n 0, 1) := by decide +kernel
theorem dX10_setResistance_25 : decode cX10_setResistance 25 = .ok (.getfield 10, 3) := by decide +kernel
theorem dX10_setResistance_28 : decode cX10_setResistance 28 = .ok (.invokevirtual 60, 3) := by decide +kernel
theorem dX10_setResistance_31 : decode cX10_setResistance 31 = .ok (.aload_n 0, 1) := by decide +kernel
theorem dX10_setResistance_32 : decode cX10_setResistance 32 = .ok (.getfield 10, 3) := by decide +kernel
theorem dX10_setResistance_35 : decode cX10_setResistance 35 = .ok (.getfield 64, 3) := by decide +kernel
theorem dX10_setResistance_38 : decode cX10_setResistance 38 = .ok (.getfield 67, 3) := by decide +kernel
theorem dX10_setResistance_41 : decode cX10_setResistance 41 = .ok (.iload_n 1, 1) := by decide +kernel
theorem dX10_setResistance_42 : decode cX10_setResistance 42 = .ok (.iconst 4, 1) := by decide +kernel
theorem dX10_setResistance_43 : decode cX10_setResistance 43 = .ok (.invokevirtual 71, 3) := by decide +kernel
theorem dX10_setResistance_46 : decode cX10_setResistance 46 = .ok (.istore_n 3, 1) := by decide +kernel
theorem dX10_setResistance_47 : decode cX10_setResistance 47 = .ok (.aload_n 0, 1) := by decide +kernel
theorem dX10_setResistance_48 : decode cX10_setResistance 48 = .ok (.getfield 10, 3) := by decide +kernel
theorem dX10_setResistance_51 : decode cX10_setResistance 51 = .ok (.getfield 64, 3) := by decide +kernel
theorem dX10_setResistance_54 : decode cX10_setResistance 54 = .ok (.getfield 67, 3) := by decide +kernel
theorem dX10_setResistance_57 : decode cX10_setResistance 57 = .ok (.iload_n 1, 1) := by decide +kernel
theorem dX10_setResistance_58 : decode cX10_setResistance 58 = .ok (.iconst 4, 1) := by decide +kernel
theorem dX10_setResistance_59 : decode cX10_setResistance 59 = .ok (.iload_n 2, 1) := by decide +kernel
theorem dX10_setResistance_60 : decode cX10_setResistance 60 = .ok (.invokevirtual 85, 3) := by decide +kernel
theorem dX10_setResistance_63 : decode cX10_setResistance 63 = .ok (.iload_n 3, 1) := by decide +kernel
theorem dX10_setResistance_64 : decode cX10_setResistance 64 = .ok (.ireturn, 1) := by decide +kernel
set_option maxRecDepth 20000 in
theorem ggX10_set_X10_isSetting : GoodIn wsX10_set wsX10_isSetting := goodIn_r _ [9, 10, 11, 8, 12] (by decide +kernel) (by decide +kernel)
set_option maxRecDepth 20000 in
theorem gX10_set_X10_isSetting : GoodIn wsX10_set (va_wsS RX10 89 yX10_isSetting wsX10_isSetting) := goodIn_app (goodIn_of _ (by decide +kernel)) ggX10_set_X10_isSetting
set_option maxRecDepth 20000 in
theorem ggX10_set_X1_keep : GoodIn wsX10_set wsX1_keep := goodIn_r _ [17, 18, 19, 20, 21, 22, 23, 24, 25, 26, 16, 27, 28, 29, 30, 31, 32, 33, 34, 35, 36, 37, 38, 39, 40, 41, 42, 43, 44, 45, 46, 47, 48, 49, 50, 51, 52, 53, 54, 55, 56, 57, 58, 59, 60, 61, 62, 63, 64, 65, 66, 67, 68, 69, 70, 71, 72, 73, 74, 75, 76, 77, 78, 109, 110, 111, 98, 99, 100, 101, 102, 103, 104, 105, 106, 107, 108, 112, 113, 114, 115, 116, 117, 118] (by decide +kernel) (by decide +kernel)
set_option maxRecDepth 20000 in
theorem gX10_set_X1_keep : GoodIn wsX10_set (wsV RX10 60 RX1 yX1_keep wsX1_keep) := goodIn_app (goodIn_of _ (by decide +kernel)) ggX10_set_X1_keep
set_option maxRecDepth 20000 in
theorem ggX10_set_X3_setting : GoodIn wsX10_set wsX3_setting := goodIn_r _ [82, 48, 83, 84, 85, 53, 86, 87, 55, 105, 106, 107, 108, 112, 113] (by decide +kernel) (by decide +kernel)
set_option maxRecDepth 20000 in
theorem gX10_set_X3_setting : GoodIn wsX10_set (wsV RX10 93 RX3 yX3_setting wsX3_setting) := goodIn_app (goodIn_of _ (by decide +kernel)) ggX10_set_X3_setting
set_option maxRecDepth 20000 in
theorem ggX10_set_X7_put : GoodIn wsX10_set wsX7_put := goodIn_r _ [91, 87, 55, 112, 113] (by decide +kernel) (by decide +kernel)
set_option maxRecDepth 20000 in
theorem gX10_set_X7_put : GoodIn wsX10_set (wsV RX10 85 RX7 yX7_put wsX7_put) := goodIn_app (goodIn_of _ (by decide +kernel)) ggX10_set_X7_put
theorem dX10_set_0 : decode cX10_set 0 = .ok (.iload_n 1, 1) := by decide +kernel
theorem dX10_set_1 : decode cX10_set 1 = .ok (.iload_n 2, 1) := by decide +kernel
theorem dX10_set_2 : decode cX10_set 2 = .ok (.invokestatic 89, 3) := by decide +kernel
theorem dX10_set_5 : decode cX10_set 5 = .ok (.ifCond .ne 6, 3) := by decide +kernel
theorem dX10_set_8 : decode cX10_set 8 = .ok (.ldc 59, 2) := by decide +kernel
theorem dX10_set_10 : decode cX10_set 10 = .ok (.ireturn, 1) := by decide +kernel
theorem dX10_set_11 : decode cX10_set 11 = .ok (.aload_n 0, 1) := by decide +kernel
theorem dX10_set_12 : decode cX10_set 12 = .ok (.getfield 19, 3) := by decide +kernel
theorem dX10_set_15 : decode cX10_set 15 = .ok (.aload_n 0, 1) := by decide +kernel
theorem dX10_set_16 : decode cX10_set 16 = .ok (.getfield 10, 3) := by decide +kernel
theorem dX10_set_19 : decode cX10_set 19 = .ok (.invokevirtual 60, 3) := by decide +kernel
theorem dX10_set_22 : decode cX10_set 22 = .ok (.aload_n 0, 1) := by decide +kernel
theorem dX10_set_23 : decode cX10_set 23 = .ok (.getfield 10, 3) := by decide +kernel
theorem dX10_set_26 : decode cX10_set 26 = .ok (.getfield 64, 3) := by decide +kernel
theorem dX10_set_29 : decode cX10_set 29 = .ok (.iload_n 1, 1) := by decide +kernel
theorem dX10_set_30 : decode cX10_set 30 = .ok (.invokevirtual 93, 3) := by decide +kernel
theorem dX10_set_33 : decode cX10_set 33 = .ok (.istore_n 3, 1) := by decide +kernel
theorem dX10_set_34 : decode cX10_set 34 = .ok (.aload_n 0, 1) := by decide +kernel
theorem dX10_set_35 : decode cX10_set 35 = .ok (.getfield 10, 3) := by decide +kernel
theorem dX10_set_38 : decode cX10_set 38 = .ok (.getfield 64, 3) := by decide +kernel
theorem dX10_set_41 : decode cX10_set 41 = .ok (.getfield 97, 3) := by decide +kernel
theorem dX10_set_44 : decode cX10_set 44 = .ok (.iload_n 1, 1) := by decide +kernel
theorem dX10_set_45 : decode cX10_set 45 = .ok (.iconst 0, 1) := by decide +kernel
theorem dX10_set_46 : decode cX10_set 46 = .ok (.iload_n 2, 1) := by decide +kernel
theorem dX10_set_47 : decode cX10_set 47 = .ok (.invokevirtual 85, 3) := by decide +kernel
theorem dX10_set_50 : decode cX10_set 50 = .ok (.iload_n 3, 1) := by decide +kernel
theorem dX10_set_51 : decode cX10_set 51 = .ok (.ireturn, 1) := by decide +kernel
set_option maxRecDepth 20000 in
theorem ggX10_addEntry_X10_isWithin : GoodIn wsX10_addEntry wsX10_isWithin := goodIn_r _ [10] (by decide +kernel) (by decide +kernel)
set_option maxRecDepth 20000 in
theorem gX10_addEntry_X10_isWithin : GoodIn wsX10_addEntry (va_wsS RX10 81 yX10_isWithin wsX10_isWithin) := goodIn_app (goodIn_of _ (by decide +kernel)) ggX10_addEntry_X10_isWithin
set_option maxRecDepth 20000 in
theorem ggX10_addEntry_X10_isSettle : GoodIn wsX10_addEntry wsX10_isSettle := goodIn_r _ [13, 7, 8, 9, 10] (by decide +kernel) (by decide +kernel)
set_option maxRecDepth 20000 in
theorem gX10_addEntry_X10_isSettle : GoodIn wsX10_addEntry (va_wsS RX10 104 yX10_isSettle wsX10_isSettle) := goodIn_app (goodIn_of _ (by decide +kernel)) ggX10_addEntry_X10_isSettle
set_option maxRecDepth 20000 in
theorem ggX10_addEntry_X1_keep : GoodIn wsX10_addEntry wsX1_keep := goodIn_r _ [18, 19, 20, 21, 22, 23, 24, 25, 26, 27, 17, 28, 29, 30, 31, 32, 33, 34, 35, 36, 37, 38, 39, 40, 41, 42, 43, 44, 45, 46, 47, 48, 49, 50, 51, 52, 53, 54, 55, 56, 57, 58, 59, 60, 61, 62, 63, 64, 65, 66, 67, 68, 69, 70, 71, 72, 73, 74, 75, 76, 77, 78, 79, 115, 116, 117, 104, 105, 106, 107, 108, 109, 110, 111, 112, 113, 114, 118, 119, 120, 121, 122, 123, 124] (by decide +kernel) (by decide +kernel)
set_option maxRecDepth 20000 in
theorem gX10_addEntry_X1_keep : GoodIn wsX10_addEntry (wsV RX10 60 RX1 yX1_keep wsX1_keep) := goodIn_app (goodIn_of _ (by decide +kernel)) ggX10_addEntry_X1_keep
set_option maxRecDepth 20000 in
theorem ggX10_addEntry_X3_insert : GoodIn wsX10_addEntry wsX3_insert := goodIn_r _ [83, 50, 48, 84, 85, 86, 54, 87, 88, 89, 90, 91, 92, 56, 93, 94, 95, 96, 97, 111, 112, 113, 114, 118, 119] (by decide +kernel) (by decide +kernel)
set_option maxRecDepth 20000 in
theorem gX10_addEntry_X3_insert : GoodIn wsX10_addEntry (wsV RX10 108 RX3 yX3_insert wsX3_insert) := goodIn_app (goodIn_of _ (by decide +kernel)) ggX10_addEntry_X3_insert
theorem dX10_addEntry_0 : decode cX10_addEntry 0 = .ok (.aload_n 0, 1) := by decide +kernel
theorem dX10_addEntry_1 : decode cX10_addEntry 1 = .ok (.getfield 10, 3) := by decide +kernel
theorem dX10_addEntry_4 : decode cX10_addEntry 4 = .ok (.getfield 64, 3) := by decide +kernel
theorem dX10_addEntry_7 : decode cX10_addEntry 7 = .ok (.getfield 100, 3) := by decide +kernel
theorem dX10_addEntry_10 : decode cX10_addEntry 10 = .ok (.istore 4, 2) := by decide +kernel
theorem dX10_addEntry_12 : decode cX10_addEntry 12 = .ok (.iload_n 1, 1) := by decide +kernel
theorem dX10_addEntry_13 : decode cX10_addEntry 13 = .ok (.iconst 0, 1) := by decide +kernel
theorem dX10_addEntry_14 : decode cX10_addEntry 14 = .ok (.bipush 9, 2) := by decide +kernel
theorem dX10_addEntry_16 : decode cX10_addEntry 16 = .ok (.invokestatic 81, 3) := by decide +kernel
theorem dX10_addEntry_19 : decode cX10_addEntry 19 = .ok (.ifCond .eq 20, 3) := by decide +kernel
theorem dX10_addEntry_22 : decode cX10_addEntry 22 = .ok (.iload_n 2, 1) := by decide +kernel
theorem dX10_addEntry_23 : decode cX10_addEntry 23 = .ok (.invokestatic 104, 3) := by decide +kernel
theorem dX10_addEntry_26 : decode cX10_addEntry 26 = .ok (.ifCond .eq 13, 3) := by decide +kernel
theorem dX10_addEntry_29 : decode cX10_addEntry 29 = .ok (.iload_n 3, 1) := by decide +kernel
theorem dX10_addEntry_30 : decode cX10_addEntry 30 = .ok (.iconst 0, 1) := by decide +kernel
theorem dX10_addEntry_31 : decode cX10_addEntry 31 = .ok (.iload 4, 2) := by decide +kernel
theorem dX10_addEntry_33 : decode cX10_addEntry 33 = .ok (.invokestatic 81, 3) := by decide +kernel
theorem dX10_addEntry_36 : decode cX10_addEntry 36 = .ok (.ifCond .ne 6, 3) := by decide +kernel
theorem dX10_addEntry_39 : decode cX10_addEntry 39 = .ok (.ldc 59, 2) := by decide +kernel
theorem dX10_addEntry_41 : decode cX10_addEntry 41 = .ok (.ireturn, 1) := by decide +kernel
theorem dX10_addEntry_42 : decode cX10_addEntry 42 = .ok (.iload 4, 2) := by decide +kernel
theorem dX10_addEntry_44 : decode cX10_addEntry 44 = .ok (.bipush 16, 2) := by decide +kernel
theorem dX10_addEntry_46 : decode cX10_addEntry 46 = .ok (.if_icmp .lt 6, 3) := by decide +kernel
theorem dX10_addEntry_49 : decode cX10_addEntry 49 = .ok (.ldc 107, 2) := by decide +kernel
theorem dX10_addEntry_51 : decode cX10_addEntry 51 = .ok (.ireturn, 1) := by decide +kernel
theorem dX10_addEntry_52 : decode cX10_addEntry 52 = .ok (.aload_n 0, 1) := by decide +kernel
theorem dX10_addEntry_53 : decode cX10_addEntry 53 = .ok (.getfield 19, 3) := by decide +kernel
theorem dX10_addEntry_56 : decode cX10_addEntry 56 = .ok (.aload_n 0, 1) := by decide +kernel
theorem dX10_addEntry_57 : decode cX10_addEntry 57 = .ok (.getfield 10, 3) := by decide +kernel
theorem dX10_addEntry_60 : decode cX10_addEntry 60 = .ok (.invokevirtual 60, 3) := by decide +kernel
theorem dX10_addEntry_63 : decode cX10_addEntry 63 = .ok (.aload_n 0, 1) := by decide +kernel
theorem dX10_addEntry_64 : decode cX10_addEntry 64 = .ok (.getfield 10, 3) := by decide +kernel
theorem dX10_addEntry_67 : decode cX10_addEntry 67 = .ok (.getfield 64, 3) := by decide +kernel
theorem dX10_addEntry_70 : decode cX10_addEntry 70 = .ok (.iload_n 1, 1) := by decide +kernel
theorem dX10_addEntry_71 : decode cX10_addEntry 71 = .ok (.iload_n 2, 1) := by decide +kernel
theorem dX10_addEntry_72 : decode cX10_addEntry 72 = .ok (.iload_n 3, 1) := by decide +kernel
theorem dX10_addEntry_73 : decode cX10_addEntry 73 = .ok (.invokevirtual 108, 3) := by decide +kernel
theorem dX10_addEntry_76 : decode cX10_addEntry 76 = .ok (.aload_n 0, 1) := by decide +kernel
theorem dX10_addEntry_77 : decode cX10_addEntry 77 = .ok (.getfield 10, 3) := by decide +kernel
theorem dX10_addEntry_80 : decode cX10_addEntry 80 = .ok (.getfield 64, 3) := by decide +kernel
theorem dX10_addEntry_83 : decode cX10_addEntry 83 = .ok (.getfield 100, 3) := by decide +kernel
theorem dX10_addEntry_86 : decode cX10_addEntry 86 = .ok (.ireturn, 1) := by decide +kernel
set_option maxRecDepth 20000 in
theorem ggX10_removeEntry_X10_isEntry : GoodIn wsX10_removeEntry wsX10_isEntry := goodIn_r _ [10, 3, 4, 5, 11, 12, 9, 13, 97, 98, 99, 100, 101, 102, 103, 104, 105, 106, 107, 108, 109, 110, 111, 112, 113] (by decide +kernel) (by decide +kernel)
set_option maxRecDepth 20000 in
theorem gX10_removeEntry_X10_isEntry : GoodIn wsX10_removeEntry (wsV RX10 111 RX10 yX10_isEntry wsX10_isEntry) := goodIn_app (goodIn_of _ (by decide +kernel)) ggX10_removeEntry_X10_isEntry
set_option maxRecDepth 20000 in
theorem ggX10_removeEntry_X1_keep : GoodIn wsX10_removeEntry wsX1_keep := goodIn_r _ [18, 19, 20, 21, 22, 23, 24, 25, 26, 27, 17, 28, 29, 30, 31, 32, 33, 34, 35, 36, 37, 38, 39, 40, 41, 42, 43, 44, 45, 46, 47, 48, 49, 50, 51, 52, 53, 54, 55, 56, 57, 58, 59, 60, 61, 62, 63, 64, 65, 66, 67, 68, 69, 70, 71, 72, 73, 74, 75, 76, 77, 78, 79, 114, 115, 116, 103, 104, 105, 106, 107, 108, 109, 110, 111, 112, 113, 117, 118, 119, 120, 121, 122, 123] (by decide +kernel) (by decide +kernel)
set_option maxRecDepth 20000 in
theorem gX10_removeEntry_X1_keep : GoodIn wsX10_removeEntry (wsV RX10 60 RX1 yX1_keep wsX1_keep) := goodIn_app (goodIn_of _ (by decide +kernel)) ggX10_removeEntry_X1_keep
set_option maxRecDepth 20000 in
theorem ggX10_removeEntry_X3_removeAt : GoodIn wsX10_removeEntry wsX3_removeAt := goodIn_r _ [83, 50, 48, 84, 85, 86, 54, 87, 88, 89, 90, 91, 92, 56, 93, 94, 95, 96, 110, 111, 112, 113, 117, 118] (by decide +kernel) (by decide +kernel)
set_option maxRecDepth 20000 in
theorem gX10_removeEntry_X3_removeAt : GoodIn wsX10_removeEntry (wsV RX10 114 RX3 yX3_removeAt wsX3_removeAt) := goodIn_app (goodIn_of _ (by decide +kernel)) ggX10_removeEntry_X3_removeAt
theorem dX10_removeEntry_0 : decode cX10_removeEntry 0 = .ok (.aload_n 0, 1) := by decide +kernel
theorem dX10_removeEntry_1 : decode cX10_removeEntry 1 = .ok (.iload_n 1, 1) := by decide +kernel
theorem dX10_removeEntry_2 : decode cX10_removeEntry 2 = .ok (.invokevirtual 111, 3) := by decide +kernel
theorem dX10_removeEntry_5 : decode cX10_removeEntry 5 = .ok (.ifCond .ne 6, 3) := by decide +kernel
theorem dX10_removeEntry_8 : decode cX10_removeEntry 8 = .ok (.ldc 59, 2) := by decide +kernel
theorem dX10_removeEntry_10 : decode cX10_removeEntry 10 = .ok (.ireturn, 1) := by decide +kernel
theorem dX10_removeEntry_11 : decode cX10_removeEntry 11 = .ok (.aload_n 0, 1) := by decide +kernel
theorem dX10_removeEntry_12 : decode cX10_removeEntry 12 = .ok (.getfield 19, 3) := by decide +kernel
theorem dX10_removeEntry_15 : decode cX10_removeEntry 15 = .ok (.aload_n 0, 1) := by decide +kernel
theorem dX10_removeEntry_16 : decode cX10_removeEntry 16 = .ok (.getfield 10, 3) := by decide +kernel
theorem dX10_removeEntry_19 : decode cX10_removeEntry 19 = .ok (.invokevirtual 60, 3) := by decide +kernel
theorem dX10_removeEntry_22 : decode cX10_removeEntry 22 = .ok (.aload_n 0, 1) := by decide +kernel
theorem dX10_removeEntry_23 : decode cX10_removeEntry 23 = .ok (.getfield 10, 3) := by decide +kernel
theorem dX10_removeEntry_26 : decode cX10_removeEntry 26 = .ok (.getfield 64, 3) := by decide +kernel
theorem dX10_removeEntry_29 : decode cX10_removeEntry 29 = .ok (.iload_n 1, 1) := by decide +kernel
theorem dX10_removeEntry_30 : decode cX10_removeEntry 30 = .ok (.invokevirtual 114, 3) := by decide +kernel
theorem dX10_removeEntry_33 : decode cX10_removeEntry 33 = .ok (.aload_n 0, 1) := by decide +kernel
theorem dX10_removeEntry_34 : decode cX10_removeEntry 34 = .ok (.getfield 10, 3) := by decide +kernel
theorem dX10_removeEntry_37 : decode cX10_removeEntry 37 = .ok (.getfield 64, 3) := by decide +kernel
theorem dX10_removeEntry_40 : decode cX10_removeEntry 40 = .ok (.getfield 100, 3) := by decide +kernel
theorem dX10_removeEntry_43 : decode cX10_removeEntry 43 = .ok (.ireturn, 1) := by decide +kernel
set_option maxRecDepth 20000 in
theorem ggX10_setSettle_X10_isEntry : GoodIn wsX10_setSettle wsX10_isEntry := goodIn_r _ [10, 3, 4, 11, 12, 13, 9, 14, 93, 94, 95, 96, 97, 98, 99, 100, 101, 102, 103, 104, 105, 106, 107, 108, 109] (by decide +kernel) (by decide +kernel)
set_option maxRecDepth 20000 in
theorem gX10_setSettle_X10_isEntry : GoodIn wsX10_setSettle (wsV RX10 111 RX10 yX10_isEntry wsX10_isEntry) := goodIn_app (goodIn_of _ (by decide +kernel)) ggX10_setSettle_X10_isEntry
set_option maxRecDepth 20000 in
theorem ggX10_setSettle_X10_isSettle : GoodIn wsX10_setSettle wsX10_isSettle := goodIn_r _ [17, 12, 13, 9, 14] (by decide +kernel) (by decide +kernel)
set_option maxRecDepth 20000 in
theorem gX10_setSettle_X10_isSettle : GoodIn wsX10_setSettle (va_wsS RX10 104 yX10_isSettle wsX10_isSettle) := goodIn_app (goodIn_of _ (by decide +kernel)) ggX10_setSettle_X10_isSettle
set_option maxRecDepth 20000 in
theorem ggX10_setSettle_X1_keep : GoodIn wsX10_setSettle wsX1_keep := goodIn_r _ [22, 23, 24, 25, 26, 27, 28, 29, 30, 31, 21, 32, 33, 34, 35, 36, 37, 38, 39, 40, 41, 42, 43, 44, 45, 46, 47, 48, 49, 50, 51, 52, 53, 54, 55, 56, 57, 58, 59, 60, 61, 62, 63, 64, 65, 66, 67, 68, 69, 70, 71, 72, 73, 74, 75, 76, 77, 78, 79, 80, 81, 82, 83, 110, 111, 112, 99, 100, 101, 102, 103, 104, 105, 106, 107, 108, 109, 113, 114, 115, 116, 117, 118, 119] (by decide +kernel) (by decide +kernel)
set_option maxRecDepth 20000 in
theorem gX10_setSettle_X1_keep : GoodIn wsX10_setSettle (wsV RX10 60 RX1 yX1_keep wsX1_keep) := goodIn_app (goodIn_of _ (by decide +kernel)) ggX10_setSettle_X1_keep
set_option maxRecDepth 20000 in
theorem ggX10_setSettle_X7_at : GoodIn wsX10_setSettle wsX7_at := goodIn_r _ [87, 88, 60, 113, 114] (by decide +kernel) (by decide +kernel)
set_option maxRecDepth 20000 in
theorem gX10_setSettle_X7_at : GoodIn wsX10_setSettle (wsV RX10 71 RX7 yX7_at wsX7_at) := goodIn_app (goodIn_of _ (by decide +kernel)) ggX10_setSettle_X7_at
set_option maxRecDepth 20000 in
theorem ggX10_setSettle_X7_put : GoodIn wsX10_setSettle wsX7_put := goodIn_r _ [92, 88, 60, 113, 114] (by decide +kernel) (by decide +kernel)
set_option maxRecDepth 20000 in
theorem gX10_setSettle_X7_put : GoodIn wsX10_setSettle (wsV RX10 85 RX7 yX7_put wsX7_put) := goodIn_app (goodIn_of _ (by decide +kernel)) ggX10_setSettle_X7_put
theorem dX10_setSettle_0 : decode cX10_setSettle 0 = .ok (.aload_n 0, 1) := by decide +kernel
theorem dX10_setSettle_1 : decode cX10_setSettle 1 = .ok (.iload_n 1, 1) := by decide +kernel
theorem dX10_setSettle_2 : decode cX10_setSettle 2 = .ok (.invokevirtual 111, 3) := by decide +kernel
theorem dX10_setSettle_5 : decode cX10_setSettle 5 = .ok (.ifCond .eq 10, 3) := by decide +kernel
theorem dX10_setSettle_8 : decode cX10_setSettle 8 = .ok (.iload_n 2, 1) := by decide +kernel
theorem dX10_setSettle_9 : decode cX10_setSettle 9 = .ok (.invokestatic 104, 3) := by decide +kernel
theorem dX10_setSettle_12 : decode cX10_setSettle 12 = .ok (.ifCond .ne 6, 3) := by decide +kernel
theorem dX10_setSettle_15 : decode cX10_setSettle 15 = .ok (.ldc 59, 2) := by decide +kernel
theorem dX10_setSettle_17 : decode cX10_setSettle 17 = .ok (.ireturn, 1) := by decide +kernel
theorem dX10_setSettle_18 : decode cX10_setSettle 18 = .ok (.aload_n 0, 1) := by decide +kernel
theorem dX10_setSettle_19 : decode cX10_setSettle 19 = .ok (.getfield 19, 3) := by decide +kernel
theorem dX10_setSettle_22 : decode cX10_setSettle 22 = .ok (.aload_n 0, 1) := by decide +kernel
theorem dX10_setSettle_23 : decode cX10_setSettle 23 = .ok (.getfield 10, 3) := by decide +kernel
theorem dX10_setSettle_26 : decode cX10_setSettle 26 = .ok (.invokevirtual 60, 3) := by decide +kernel
theorem dX10_setSettle_29 : decode cX10_setSettle 29 = .ok (.aload_n 0, 1) := by decide +kernel
theorem dX10_setSettle_30 : decode cX10_setSettle 30 = .ok (.getfield 10, 3) := by decide +kernel
theorem dX10_setSettle_33 : decode cX10_setSettle 33 = .ok (.getfield 64, 3) := by decide +kernel
theorem dX10_setSettle_36 : decode cX10_setSettle 36 = .ok (.getfield 118, 3) := by decide +kernel
theorem dX10_setSettle_39 : decode cX10_setSettle 39 = .ok (.iload_n 1, 1) := by decide +kernel
theorem dX10_setSettle_40 : decode cX10_setSettle 40 = .ok (.iconst 1, 1) := by decide +kernel
theorem dX10_setSettle_41 : decode cX10_setSettle 41 = .ok (.invokevirtual 71, 3) := by decide +kernel
theorem dX10_setSettle_44 : decode cX10_setSettle 44 = .ok (.istore_n 3, 1) := by decide +kernel
theorem dX10_setSettle_45 : decode cX10_setSettle 45 = .ok (.aload_n 0, 1) := by decide +kernel
theorem dX10_setSettle_46 : decode cX10_setSettle 46 = .ok (.getfield 10, 3) := by decide +kernel
theorem dX10_setSettle_49 : decode cX10_setSettle 49 = .ok (.getfield 64, 3) := by decide +kernel
theorem dX10_setSettle_52 : decode cX10_setSettle 52 = .ok (.getfield 118, 3) := by decide +kernel
theorem dX10_setSettle_55 : decode cX10_setSettle 55 = .ok (.iload_n 1, 1) := by decide +kernel
theorem dX10_setSettle_56 : decode cX10_setSettle 56 = .ok (.iconst 1, 1) := by decide +kernel
theorem dX10_setSettle_57 : decode cX10_setSettle 57 = .ok (.iload_n 2, 1) := by decide +kernel
theorem dX10_setSettle_58 : decode cX10_setSettle 58 = .ok (.invokevirtual 85, 3) := by decide +kernel
theorem dX10_setSettle_61 : decode cX10_setSettle 61 = .ok (.iload_n 3, 1) := by decide +kernel
theorem dX10_setSettle_62 : decode cX10_setSettle 62 = .ok (.ireturn, 1) := by decide +kernel
set_option maxRecDepth 20000 in
theorem ggX10_order_X10_isWithin : GoodIn wsX10_order wsX10_isWithin := goodIn_r _ [9] (by decide +kernel) (by decide +kernel)
set_option maxRecDepth 20000 in
theorem gX10_order_X10_isWithin : GoodIn wsX10_order (va_wsS RX10 81 yX10_isWithin wsX10_isWithin) := goodIn_app (goodIn_of _ (by decide +kernel)) ggX10_order_X10_isWithin
set_option maxRecDepth 20000 in
theorem ggX10_order_X1_keep : GoodIn wsX10_order wsX1_keep := goodIn_r _ [14, 15, 16, 17, 18, 19, 20, 21, 22, 23, 13, 24, 25, 26, 27, 28, 29, 30, 31, 32, 33, 34, 35, 36, 37, 38, 39, 40, 41, 42, 43, 44, 45, 46, 47, 48, 49, 50, 51, 52, 53, 54, 55, 56, 57, 58, 59, 60, 61, 62, 63, 64, 65, 66, 67, 68, 69, 70, 71, 72, 73, 74, 75, 151, 152, 153, 144, 145, 146, 147, 148, 149, 150, 154, 155, 156, 157, 158, 159, 160, 161, 162, 163, 164] (by decide +kernel) (by decide +kernel)
set_option maxRecDepth 20000 in
theorem gX10_order_X1_keep : GoodIn wsX10_order (wsV RX10 60 RX1 yX1_keep wsX1_keep) := goodIn_app (goodIn_of _ (by decide +kernel)) ggX10_order_X1_keep
set_option maxRecDepth 20000 in
theorem ggX10_order_X6_time : GoodIn wsX10_order wsX6_time := goodIn_r _ [79, 34, 80, 81, 82, 50, 83, 84, 52, 144, 145, 146, 147, 148, 149, 150, 158, 159] (by decide +kernel) (by decide +kernel)
set_option maxRecDepth 20000 in
theorem gX10_order_X6_time : GoodIn wsX10_order (wsV RX10 121 RX6 yX6_time wsX6_time) := goodIn_app (goodIn_of _ (by decide +kernel)) ggX10_order_X6_time
set_option maxRecDepth 20000 in
theorem ggX10_order_X5_arrange : GoodIn wsX10_order wsX5_arrange := goodIn_r _ [89, 90, 91, 92, 93, 94, 95, 88, 96, 97, 81, 82, 50, 83, 84, 52, 98, 99, 100, 41, 101, 43, 102, 103, 104, 105, 106, 107, 18, 19, 20, 108, 109, 110, 111, 112, 113, 114, 45, 115, 116, 117, 118, 119, 120, 121, 122, 123, 124, 125, 126, 127, 128, 129, 130, 131, 132, 133, 134, 135, 136, 137, 48, 49, 51, 53, 54, 55, 56, 57, 154, 155, 156, 157, 165, 166, 167, 158, 159] (by decide +kernel) (by decide +kernel)
set_option maxRecDepth 20000 in
theorem gX10_order_X5_arrange : GoodIn wsX10_order (wsV RX10 125 RX5 yX5_arrange wsX5_arrange) := goodIn_app (goodIn_of _ (by decide +kernel)) ggX10_order_X5_arrange
theorem dX10_order_0 : decode cX10_order 0 = .ok (.iload_n 1, 1) := by decide +kernel
theorem dX10_order_1 : decode cX10_order 1 = .ok (.iconst 0, 1) := by decide +kernel
theorem dX10_order_2 : decode cX10_order 2 = .ok (.iconst 3, 1) := by decide +kernel
theorem dX10_order_3 : decode cX10_order 3 = .ok (.invokestatic 81, 3) := by decide +kernel
theorem dX10_order_6 : decode cX10_order 6 = .ok (.ifCond .ne 6, 3) := by decide +kernel
theorem dX10_order_9 : decode cX10_order 9 = .ok (.ldc 59, 2) := by decide +kernel
theorem dX10_order_11 : decode cX10_order 11 = .ok (.ireturn, 1) := by decide +kernel
theorem dX10_order_12 : decode cX10_order 12 = .ok (.aload_n 0, 1) := by decide +kernel
theorem dX10_order_13 : decode cX10_order 13 = .ok (.getfield 19, 3) := by decide +kernel
theorem dX10_order_16 : decode cX10_order 16 = .ok (.aload_n 0, 1) := by decide +kernel
theorem dX10_order_17 : decode cX10_order 17 = .ok (.getfield 10, 3) := by decide +kernel
theorem dX10_order_20 : decode cX10_order 20 = .ok (.invokevirtual 60, 3) := by decide +kernel
theorem dX10_order_23 : decode cX10_order 23 = .ok (.aload_n 0, 1) := by decide +kernel
theorem dX10_order_24 : decode cX10_order 24 = .ok (.getfield 33, 3) := by decide +kernel
theorem dX10_order_27 : decode cX10_order 27 = .ok (.aload_n 0, 1) := by decide +kernel
theorem dX10_order_28 : decode cX10_order 28 = .ok (.getfield 10, 3) := by decide +kernel
theorem dX10_order_31 : decode cX10_order 31 = .ok (.getfield 64, 3) := by decide +kernel
theorem dX10_order_34 : decode cX10_order 34 = .ok (.iload_n 1, 1) := by decide +kernel
theorem dX10_order_35 : decode cX10_order 35 = .ok (.aload_n 0, 1) := by decide +kernel
theorem dX10_order_36 : decode cX10_order 36 = .ok (.getfield 10, 3) := by decide +kernel
theorem dX10_order_39 : decode cX10_order 39 = .ok (.invokevirtual 121, 3) := by decide +kernel
theorem dX10_order_42 : decode cX10_order 42 = .ok (.invokevirtual 125, 3) := by decide +kernel
theorem dX10_order_45 : decode cX10_order 45 = .ok (.ireturn, 1) := by decide +kernel
set_option maxRecDepth 20000 in
theorem ggX10_scan_X10_isWithin : GoodIn wsX10_scan wsX10_isWithin := goodIn_r _ [14] (by decide +kernel) (by decide +kernel)
set_option maxRecDepth 20000 in
theorem gX10_scan_X10_isWithin : GoodIn wsX10_scan (va_wsS RX10 81 yX10_isWithin wsX10_isWithin) := goodIn_app (goodIn_of _ (by decide +kernel)) ggX10_scan_X10_isWithin
set_option maxRecDepth 20000 in
theorem ggX10_scan_X6_time : GoodIn wsX10_scan wsX6_time := goodIn_r _ [19, 20, 21, 22, 23, 24, 25, 26, 27, 201, 202, 203, 204, 205, 206, 207, 212, 213] (by decide +kernel) (by decide +kernel)
set_option maxRecDepth 20000 in
theorem gX10_scan_X6_time : GoodIn wsX10_scan (wsV RX10 121 RX6 yX6_time wsX6_time) := goodIn_app (goodIn_of _ (by decide +kernel)) ggX10_scan_X6_time
set_option maxRecDepth 20000 in
theorem ggX10_scan_X3_slotsOfScan : GoodIn wsX10_scan wsX3_slotsOfScan := goodIn_r _ [32, 33, 34, 35, 36, 31, 37, 38, 39, 22, 23, 24, 25, 26, 27, 208, 209, 210, 211, 212, 213] (by decide +kernel) (by decide +kernel)
set_option maxRecDepth 20000 in
theorem gX10_scan_X3_slotsOfScan : GoodIn wsX10_scan (wsV RX10 130 RX3 yX3_slotsOfScan wsX3_slotsOfScan) := goodIn_app (goodIn_of _ (by decide +kernel)) ggX10_scan_X3_slotsOfScan
set_option maxRecDepth 20000 in
theorem ggX10_scan_X1_keep : GoodIn wsX10_scan wsX1_keep := goodIn_r _ [44, 45, 46, 47, 48, 49, 50, 51, 52, 53, 43, 54, 55, 56, 57, 58, 18, 59, 60, 61, 62, 20, 63, 64, 65, 66, 67, 68, 31, 69, 70, 38, 71, 33, 72, 73, 74, 24, 75, 27, 76, 77, 78, 79, 80, 81, 82, 83, 84, 85, 86, 87, 88, 89, 90, 91, 92, 93, 94, 95, 96, 97, 98, 214, 215, 216, 201, 202, 203, 204, 205, 206, 207, 208, 209, 210, 211, 212, 213, 217, 218, 219, 220, 221] (by decide +kernel) (by decide +kernel)
set_option maxRecDepth 20000 in
theorem gX10_scan_X1_keep : GoodIn wsX10_scan (wsV RX10 60 RX1 yX1_keep wsX1_keep) := goodIn_app (goodIn_of _ (by decide +kernel)) ggX10_scan_X1_keep
set_option maxRecDepth 20000 in
theorem ggX10_scan_X7_at : GoodIn wsX10_scan wsX7_at := goodIn_r _ [25, 26, 27, 212, 213] (by decide +kernel) (by decide +kernel)
set_option maxRecDepth 20000 in
theorem gX10_scan_X7_at : GoodIn wsX10_scan (wsV RX10 71 RX7 yX7_at wsX7_at) := goodIn_app (goodIn_of _ (by decide +kernel)) ggX10_scan_X7_at
set_option maxRecDepth 20000 in
theorem ggX10_scan_X0_start : GoodIn wsX10_scan wsX0_start := goodIn_r _ [104, 105, 106, 222, 223, 224, 225, 226] (by decide +kernel) (by decide +kernel)
set_option maxRecDepth 20000 in
theorem gX10_scan_X0_start : GoodIn wsX10_scan (wsV RX10 140 RX0 yX0_start wsX0_start) := goodIn_app (goodIn_of _ (by decide +kernel)) ggX10_scan_X0_start
set_option maxRecDepth 20000 in
theorem ggX10_scan_X10_scanOnce : GoodIn wsX10_scan wsX10_scanOnce := goodIn_r _ [110, 2, 3, 4, 9, 111, 112, 113, 114, 103, 115, 116, 117, 22, 23, 24, 25, 26, 27, 118, 119, 120, 121, 106, 122, 105, 123, 124, 125, 126, 127, 31, 128, 70, 39, 129, 130, 131, 132, 133, 48, 49, 50, 134, 135, 136, 137, 138, 139, 140, 71, 141, 142, 143, 144, 145, 146, 147, 148, 149, 150, 151, 152, 153, 154, 155, 13, 156, 157, 158, 159, 99, 160, 35, 36, 37, 38, 161, 162, 163, 18, 164, 61, 62, 165, 166, 167, 168, 169, 170, 65, 171, 172, 173, 84, 174, 86, 87, 175, 176, 177, 88, 178, 179, 180, 181, 182, 183, 184, 185, 186, 187, 188, 189, 190, 191, 192, 193, 194, 20, 21, 195, 196, 197, 198, 199, 200, 201, 202, 203, 204, 205, 206, 207, 208, 209, 210, 211, 212, 213, 222, 223, 224, 225, 226, 217, 218, 219] (by decide +kernel) (by decide +kernel)
set_option maxRecDepth 20000 in
theorem gX10_scan_X10_scanOnce : GoodIn wsX10_scan (wsV RX10 144 RX10 yX10_scanOnce wsX10_scanOnce) := goodIn_app (goodIn_of _ (by decide +kernel)) ggX10_scan_X10_scanOnce
theorem dX10_scan_0 : decode cX10_scan 0 = .ok (.iload_n 1, 1) := by decide +kernel
theorem dX10_scan_1 : decode cX10_scan 1 = .ok (.iconst 1, 1) := by decide +kernel
theorem dX10_scan_2 : decode cX10_scan 2 = .ok (.bipush 20, 2) := by decide +kernel
theorem dX10_scan_4 : decode cX10_scan 4 = .ok (.invokestatic 81, 3) := by decide +kernel
theorem dX10_scan_7 : decode cX10_scan 7 = .ok (.ifCond .ne 6, 3) := by decide +kernel
theorem dX10_scan_10 : decode cX10_scan 10 = .ok (.ldc 59, 2) := by decide +kernel
theorem dX10_scan_12 : decode cX10_scan 12 = .ok (.ireturn, 1) := by decide +kernel
theorem dX10_scan_13 : decode cX10_scan 13 = .ok (.aload_n 0, 1) := by decide +kernel
theorem dX10_scan_14 : decode cX10_scan 14 = .ok (.getfield 10, 3) := by decide +kernel
theorem dX10_scan_17 : decode cX10_scan 17 = .ok (.getfield 64, 3) := by decide +kernel
theorem dX10_scan_20 : decode cX10_scan 20 = .ok (.getfield 100, 3) := by decide +kernel
theorem dX10_scan_23 : decode cX10_scan 23 = .ok (.ifCond .ne 6, 3) := by decide +kernel
theorem dX10_scan_26 : decode cX10_scan 26 = .ok (.ldc 129, 2) := by decide +kernel
theorem dX10_scan_28 : decode cX10_scan 28 = .ok (.ireturn, 1) := by decide +kernel
theorem dX10_scan_29 : decode cX10_scan 29 = .ok (.aload_n 0, 1) := by decide +kernel
theorem dX10_scan_30 : decode cX10_scan 30 = .ok (.getfield 10, 3) := by decide +kernel
theorem dX10_scan_33 : decode cX10_scan 33 = .ok (.invokevirtual 121, 3) := by decide +kernel
theorem dX10_scan_36 : decode cX10_scan 36 = .ok (.iload_n 1, 1) := by decide +kernel
theorem dX10_scan_37 : decode cX10_scan 37 = .ok (.aload_n 0, 1) := by decide +kernel
theorem dX10_scan_38 : decode cX10_scan 38 = .ok (.getfield 10, 3) := by decide +kernel
theorem dX10_scan_41 : decode cX10_scan 41 = .ok (.getfield 64, 3) := by decide +kernel
theorem dX10_scan_44 : decode cX10_scan 44 = .ok (.invokevirtual 130, 3) := by decide +kernel
theorem dX10_scan_47 : decode cX10_scan 47 = .ok (.imul, 1) := by decide +kernel
theorem dX10_scan_48 : decode cX10_scan 48 = .ok (.iadd, 1) := by decide +kernel
theorem dX10_scan_49 : decode cX10_scan 49 = .ok (.sipush 9999, 3) := by decide +kernel
theorem dX10_scan_52 : decode cX10_scan 52 = .ok (.if_icmp .le 6, 3) := by decide +kernel
theorem dX10_scan_55 : decode cX10_scan 55 = .ok (.ldc 107, 2) := by decide +kernel
theorem dX10_scan_57 : decode cX10_scan 57 = .ok (.ireturn, 1) := by decide +kernel
theorem dX10_scan_58 : decode cX10_scan 58 = .ok (.aload_n 0, 1) := by decide +kernel
theorem dX10_scan_59 : decode cX10_scan 59 = .ok (.getfield 19, 3) := by decide +kernel
theorem dX10_scan_62 : decode cX10_scan 62 = .ok (.aload_n 0, 1) := by decide +kernel
theorem dX10_scan_63 : decode cX10_scan 63 = .ok (.getfield 10, 3) := by decide +kernel
theorem dX10_scan_66 : decode cX10_scan 66 = .ok (.invokevirtual 60, 3) := by decide +kernel
theorem dX10_scan_69 : decode cX10_scan 69 = .ok (.aload_n 0, 1) := by decide +kernel
theorem dX10_scan_70 : decode cX10_scan 70 = .ok (.getfield 10, 3) := by decide +kernel
theorem dX10_scan_73 : decode cX10_scan 73 = .ok (.getfield 133, 3) := by decide +kernel
theorem dX10_scan_76 : decode cX10_scan 76 = .ok (.iconst 5, 1) := by decide +kernel
theorem dX10_scan_77 : decode cX10_scan 77 = .ok (.iconst 0, 1) := by decide +kernel
theorem dX10_scan_78 : decode cX10_scan 78 = .ok (.invokevirtual 71, 3) := by decide +kernel
theorem dX10_scan_81 : decode cX10_scan 81 = .ok (.istore_n 2, 1) := by decide +kernel
theorem dX10_scan_82 : decode cX10_scan 82 = .ok (.aload_n 0, 1) := by decide +kernel
theorem dX10_scan_83 : decode cX10_scan 83 = .ok (.getfield 26, 3) := by decide +kernel
theorem dX10_scan_86 : decode cX10_scan 86 = .ok (.aload_n 0, 1) := by decide +kernel
theorem dX10_scan_87 : decode cX10_scan 87 = .ok (.getfield 10, 3) := by decide +kernel
theorem dX10_scan_90 : decode cX10_scan 90 = .ok (.getfield 136, 3) := by decide +kernel
theorem dX10_scan_93 : decode cX10_scan 93 = .ok (.aload_n 0, 1) := by decide +kernel
theorem dX10_scan_94 : decode cX10_scan 94 = .ok (.getfield 10, 3) := by decide +kernel
theorem dX10_scan_97 : decode cX10_scan 97 = .ok (.invokevirtual 121, 3) := by decide +kernel
theorem dX10_scan_100 : decode cX10_scan 100 = .ok (.invokevirtual 140, 3) := by decide +kernel
theorem dX10_scan_103 : decode cX10_scan 103 = .ok (.iconst 0, 1) := by decide +kernel
theorem dX10_scan_104 : decode cX10_scan 104 = .ok (.istore_n 3, 1) := by decide +kernel
theorem dX10_scan_105 : decode cX10_scan 105 = .ok (.iload_n 3, 1) := by decide +kernel
theorem dX10_scan_106 : decode cX10_scan 106 = .ok (.iload_n 1, 1) := by decide +kernel
theorem dX10_scan_107 : decode cX10_scan 107 = .ok (.if_icmp .ge 13, 3) := by decide +kernel
theorem dX10_scan_110 : decode cX10_scan 110 = .ok (.aload_n 0, 1) := by decide +kernel
theorem dX10_scan_111 : decode cX10_scan 111 = .ok (.invokevirtual 144, 3) := by decide +kernel
theorem dX10_scan_114 : decode cX10_scan 114 = .ok (.iinc 3 1, 3) := by decide +kernel
theorem dX10_scan_117 : decode cX10_scan 117 = .ok (.goto (-12), 3) := by decide +kernel
theorem dX10_scan_120 : decode cX10_scan 120 = .ok (.aload_n 0, 1) := by decide +kernel
theorem dX10_scan_121 : decode cX10_scan 121 = .ok (.getfield 10, 3) := by decide +kernel
theorem dX10_scan_124 : decode cX10_scan 124 = .ok (.getfield 133, 3) := by decide +kernel
theorem dX10_scan_127 : decode cX10_scan 127 = .ok (.iconst 5, 1) := by decide +kernel
theorem dX10_scan_128 : decode cX10_scan 128 = .ok (.iconst 0, 1) := by decide +kernel
theorem dX10_scan_129 : decode cX10_scan 129 = .ok (.invokevirtual 71, 3) := by decide +kernel
theorem dX10_scan_132 : decode cX10_scan 132 = .ok (.iload_n 2, 1) := by decide +kernel
theorem dX10_scan_133 : decode cX10_scan 133 = .ok (.isub, 1) := by decide +kernel
theorem dX10_scan_134 : decode cX10_scan 134 = .ok (.ireturn, 1) := by decide +kernel
set_option maxRecDepth 20000 in
theorem ggX10_pass_X10_isWithin : GoodIn wsX10_pass wsX10_isWithin := goodIn_r _ [8] (by decide +kernel) (by decide +kernel)
set_option maxRecDepth 20000 in
theorem gX10_pass_X10_isWithin : GoodIn wsX10_pass (va_wsS RX10 81 yX10_isWithin wsX10_isWithin) := goodIn_app (goodIn_of _ (by decide +kernel)) ggX10_pass_X10_isWithin
set_option maxRecDepth 20000 in
theorem ggX10_pass_X6_time : GoodIn wsX10_pass wsX6_time := goodIn_r _ [13, 14, 15, 16, 17, 18, 19, 20, 21, 98, 99, 100, 101, 102, 103, 104, 105, 106] (by decide +kernel) (by decide +kernel)
set_option maxRecDepth 20000 in
theorem gX10_pass_X6_time : GoodIn wsX10_pass (wsV RX10 121 RX6 yX6_time wsX6_time) := goodIn_app (goodIn_of _ (by decide +kernel)) ggX10_pass_X6_time
set_option maxRecDepth 20000 in
theorem ggX10_pass_X1_keep : GoodIn wsX10_pass wsX1_keep := goodIn_r _ [26, 27, 28, 29, 30, 31, 32, 33, 34, 35, 25, 36, 37, 38, 39, 40, 12, 41, 42, 43, 44, 14, 45, 46, 47, 48, 49, 50, 51, 52, 53, 54, 55, 56, 57, 58, 59, 18, 60, 21, 61, 62, 63, 64, 65, 66, 67, 68, 69, 70, 71, 72, 73, 74, 75, 76, 77, 78, 79, 80, 81, 82, 83, 107, 108, 109, 98, 99, 100, 101, 102, 103, 104, 110, 111, 112, 113, 105, 106, 114, 115, 116, 117, 118] (by decide +kernel) (by decide +kernel)
set_option maxRecDepth 20000 in
theorem gX10_pass_X1_keep : GoodIn wsX10_pass (wsV RX10 60 RX1 yX1_keep wsX1_keep) := goodIn_app (goodIn_of _ (by decide +kernel)) ggX10_pass_X1_keep
set_option maxRecDepth 20000 in
theorem ggX10_pass_X6_addTo : GoodIn wsX10_pass wsX6_addTo := goodIn_r _ [87, 14, 15, 16, 17, 18, 19, 20, 21, 88, 89, 90, 91, 98, 99, 100, 101, 102, 103, 104, 105, 106] (by decide +kernel) (by decide +kernel)
set_option maxRecDepth 20000 in
theorem gX10_pass_X6_addTo : GoodIn wsX10_pass (wsV RX10 147 RX6 yX6_addTo wsX6_addTo) := goodIn_app (goodIn_of _ (by decide +kernel)) ggX10_pass_X6_addTo
theorem dX10_pass_0 : decode cX10_pass 0 = .ok (.iload_n 1, 1) := by decide +kernel
theorem dX10_pass_1 : decode cX10_pass 1 = .ok (.iconst 1, 1) := by decide +kernel
theorem dX10_pass_2 : decode cX10_pass 2 = .ok (.sipush 1000, 3) := by decide +kernel
theorem dX10_pass_5 : decode cX10_pass 5 = .ok (.invokestatic 81, 3) := by decide +kernel
theorem dX10_pass_8 : decode cX10_pass 8 = .ok (.ifCond .ne 6, 3) := by decide +kernel
theorem dX10_pass_11 : decode cX10_pass 11 = .ok (.ldc 59, 2) := by decide +kernel
theorem dX10_pass_13 : decode cX10_pass 13 = .ok (.ireturn, 1) := by decide +kernel
theorem dX10_pass_14 : decode cX10_pass 14 = .ok (.aload_n 0, 1) := by decide +kernel
theorem dX10_pass_15 : decode cX10_pass 15 = .ok (.getfield 10, 3) := by decide +kernel
theorem dX10_pass_18 : decode cX10_pass 18 = .ok (.invokevirtual 121, 3) := by decide +kernel
theorem dX10_pass_21 : decode cX10_pass 21 = .ok (.iload_n 1, 1) := by decide +kernel
theorem dX10_pass_22 : decode cX10_pass 22 = .ok (.iadd, 1) := by decide +kernel
theorem dX10_pass_23 : decode cX10_pass 23 = .ok (.sipush 9999, 3) := by decide +kernel
theorem dX10_pass_26 : decode cX10_pass 26 = .ok (.if_icmp .le 6, 3) := by decide +kernel
theorem dX10_pass_29 : decode cX10_pass 29 = .ok (.ldc 107, 2) := by decide +kernel
theorem dX10_pass_31 : decode cX10_pass 31 = .ok (.ireturn, 1) := by decide +kernel
theorem dX10_pass_32 : decode cX10_pass 32 = .ok (.aload_n 0, 1) := by decide +kernel
theorem dX10_pass_33 : decode cX10_pass 33 = .ok (.getfield 19, 3) := by decide +kernel
theorem dX10_pass_36 : decode cX10_pass 36 = .ok (.aload_n 0, 1) := by decide +kernel
theorem dX10_pass_37 : decode cX10_pass 37 = .ok (.getfield 10, 3) := by decide +kernel
theorem dX10_pass_40 : decode cX10_pass 40 = .ok (.invokevirtual 60, 3) := by decide +kernel
theorem dX10_pass_43 : decode cX10_pass 43 = .ok (.aload_n 0, 1) := by decide +kernel
theorem dX10_pass_44 : decode cX10_pass 44 = .ok (.getfield 10, 3) := by decide +kernel
theorem dX10_pass_47 : decode cX10_pass 47 = .ok (.iconst 3, 1) := by decide +kernel
theorem dX10_pass_48 : decode cX10_pass 48 = .ok (.iload_n 1, 1) := by decide +kernel
theorem dX10_pass_49 : decode cX10_pass 49 = .ok (.invokevirtual 147, 3) := by decide +kernel
theorem dX10_pass_52 : decode cX10_pass 52 = .ok (.aload_n 0, 1) := by decide +kernel
theorem dX10_pass_53 : decode cX10_pass 53 = .ok (.getfield 10, 3) := by decide +kernel
theorem dX10_pass_56 : decode cX10_pass 56 = .ok (.invokevirtual 121, 3) := by decide +kernel
theorem dX10_pass_59 : decode cX10_pass 59 = .ok (.ireturn, 1) := by decide +kernel
set_option maxRecDepth 20000 in
theorem ggX10_take_X10_isSnapshotPlace : GoodIn wsX10_take wsX10_isSnapshotPlace := goodIn_r _ [11, 12, 13, 10, 14] (by decide +kernel) (by decide +kernel)
set_option maxRecDepth 20000 in
theorem gX10_take_X10_isSnapshotPlace : GoodIn wsX10_take (va_wsS RX10 151 yX10_isSnapshotPlace wsX10_isSnapshotPlace) := goodIn_app (goodIn_of _ (by decide +kernel)) ggX10_take_X10_isSnapshotPlace
set_option maxRecDepth 20000 in
theorem ggX10_take_X1_keep : GoodIn wsX10_take wsX1_keep := goodIn_r _ [19, 20, 21, 22, 23, 24, 25, 26, 27, 28, 18, 29, 30, 31, 32, 33, 34, 35, 36, 37, 38, 39, 40, 41, 42, 43, 44, 45, 46, 47, 48, 49, 50, 51, 52, 53, 54, 55, 56, 57, 58, 59, 60, 61, 62, 63, 64, 65, 66, 67, 68, 69, 70, 71, 72, 73, 74, 75, 76, 77, 78, 79, 80, 105, 106, 107, 94, 95, 96, 97, 98, 99, 100, 101, 102, 103, 104, 108, 109, 110, 111, 112, 92, 93] (by decide +kernel) (by decide +kernel)
set_option maxRecDepth 20000 in
theorem gX10_take_X1_keep : GoodIn wsX10_take (wsV RX10 60 RX1 yX1_keep wsX1_keep) := goodIn_app (goodIn_of _ (by decide +kernel)) ggX10_take_X1_keep
set_option maxRecDepth 20000 in
theorem ggX10_take_X6_snapshotAt : GoodIn wsX10_take wsX6_snapshotAt := goodIn_r _ [84, 40, 41, 94, 95, 96, 97, 98, 99, 100] (by decide +kernel) (by decide +kernel)
set_option maxRecDepth 20000 in
theorem gX10_take_X6_snapshotAt : GoodIn wsX10_take (wsV RX10 154 RX6 yX6_snapshotAt wsX6_snapshotAt) := goodIn_app (goodIn_of _ (by decide +kernel)) ggX10_take_X6_snapshotAt
set_option maxRecDepth 20000 in
theorem ggX10_take_X3_copyFrom : GoodIn wsX10_take wsX3_copyFrom := goodIn_r _ [47, 48, 49, 50, 51, 52, 53, 54, 55, 56, 57, 58, 23, 24, 25, 59, 60, 61, 62, 101, 102, 103, 104, 108, 109] (by decide +kernel) (by decide +kernel)
set_option maxRecDepth 20000 in
theorem gX10_take_X3_copyFrom : GoodIn wsX10_take (wsV RX10 165 RX3 yX3_copyFrom wsX3_copyFrom) := goodIn_app (goodIn_of _ (by decide +kernel)) ggX10_take_X3_copyFrom
theorem dX10_take_0 : decode cX10_take 0 = .ok (.iload_n 1, 1) := by decide +kernel
theorem dX10_take_1 : decode cX10_take 1 = .ok (.invokestatic 151, 3) := by decide +kernel
theorem dX10_take_4 : decode cX10_take 4 = .ok (.ifCond .ne 6, 3) := by decide +kernel
theorem dX10_take_7 : decode cX10_take 7 = .ok (.ldc 59, 2) := by decide +kernel
theorem dX10_take_9 : decode cX10_take 9 = .ok (.ireturn, 1) := by decide +kernel
theorem dX10_take_10 : decode cX10_take 10 = .ok (.aload_n 0, 1) := by decide +kernel
theorem dX10_take_11 : decode cX10_take 11 = .ok (.getfield 19, 3) := by decide +kernel
theorem dX10_take_14 : decode cX10_take 14 = .ok (.aload_n 0, 1) := by decide +kernel
theorem dX10_take_15 : decode cX10_take 15 = .ok (.getfield 10, 3) := by decide +kernel
theorem dX10_take_18 : decode cX10_take 18 = .ok (.invokevirtual 60, 3) := by decide +kernel
theorem dX10_take_21 : decode cX10_take 21 = .ok (.aload_n 0, 1) := by decide +kernel
theorem dX10_take_22 : decode cX10_take 22 = .ok (.getfield 10, 3) := by decide +kernel
theorem dX10_take_25 : decode cX10_take 25 = .ok (.iload_n 1, 1) := by decide +kernel
theorem dX10_take_26 : decode cX10_take 26 = .ok (.invokevirtual 154, 3) := by decide +kernel
theorem dX10_take_29 : decode cX10_take 29 = .ok (.astore_n 2, 1) := by decide +kernel
theorem dX10_take_30 : decode cX10_take 30 = .ok (.aload_n 2, 1) := by decide +kernel
theorem dX10_take_31 : decode cX10_take 31 = .ok (.iconst 1, 1) := by decide +kernel
theorem dX10_take_32 : decode cX10_take 32 = .ok (.putfield 158, 3) := by decide +kernel
theorem dX10_take_35 : decode cX10_take 35 = .ok (.aload_n 2, 1) := by decide +kernel
theorem dX10_take_36 : decode cX10_take 36 = .ok (.getfield 164, 3) := by decide +kernel
theorem dX10_take_39 : decode cX10_take 39 = .ok (.aload_n 0, 1) := by decide +kernel
theorem dX10_take_40 : decode cX10_take 40 = .ok (.getfield 10, 3) := by decide +kernel
theorem dX10_take_43 : decode cX10_take 43 = .ok (.getfield 64, 3) := by decide +kernel
theorem dX10_take_46 : decode cX10_take 46 = .ok (.invokevirtual 165, 3) := by decide +kernel
theorem dX10_take_49 : decode cX10_take 49 = .ok (.aload_n 2, 1) := by decide +kernel
theorem dX10_take_50 : decode cX10_take 50 = .ok (.getfield 164, 3) := by decide +kernel
theorem dX10_take_53 : decode cX10_take 53 = .ok (.getfield 100, 3) := by decide +kernel
theorem dX10_take_56 : decode cX10_take 56 = .ok (.ireturn, 1) := by decide +kernel
set_option maxRecDepth 20000 in
theorem ggX10_restore_X10_isSnapshotPlace : GoodIn wsX10_restore wsX10_isSnapshotPlace := goodIn_r _ [12, 13, 14, 11, 15] (by decide +kernel) (by decide +kernel)
set_option maxRecDepth 20000 in
theorem gX10_restore_X10_isSnapshotPlace : GoodIn wsX10_restore (va_wsS RX10 151 yX10_isSnapshotPlace wsX10_isSnapshotPlace) := goodIn_app (goodIn_of _ (by decide +kernel)) ggX10_restore_X10_isSnapshotPlace
set_option maxRecDepth 20000 in
theorem ggX10_restore_X6_snapshotAt : GoodIn wsX10_restore wsX6_snapshotAt := goodIn_r _ [20, 21, 22, 95, 96, 97, 98, 99, 100, 101] (by decide +kernel) (by decide +kernel)
set_option maxRecDepth 20000 in
theorem gX10_restore_X6_snapshotAt : GoodIn wsX10_restore (wsV RX10 154 RX6 yX6_snapshotAt wsX6_snapshotAt) := goodIn_app (goodIn_of _ (by decide +kernel)) ggX10_restore_X6_snapshotAt
set_option maxRecDepth 20000 in
theorem ggX10_restore_X1_keep : GoodIn wsX10_restore wsX1_keep := goodIn_r _ [27, 28, 29, 30, 31, 32, 33, 34, 35, 36, 26, 37, 38, 39, 40, 41, 19, 42, 43, 44, 45, 46, 21, 22, 47, 48, 49, 50, 51, 52, 53, 54, 55, 56, 57, 58, 59, 60, 61, 62, 63, 64, 65, 66, 67, 68, 69, 70, 71, 72, 73, 74, 75, 76, 77, 78, 79, 80, 81, 82, 83, 84, 85, 106, 107, 108, 95, 96, 97, 98, 99, 100, 101, 102, 103, 104, 105, 109, 110, 111, 112, 113, 93, 94] (by decide +kernel) (by decide +kernel)
set_option maxRecDepth 20000 in
theorem gX10_restore_X1_keep : GoodIn wsX10_restore (wsV RX10 60 RX1 yX1_keep wsX1_keep) := goodIn_app (goodIn_of _ (by decide +kernel)) ggX10_restore_X1_keep
set_option maxRecDepth 20000 in
theorem ggX10_restore_X3_copyFrom : GoodIn wsX10_restore wsX3_copyFrom := goodIn_r _ [52, 53, 54, 55, 56, 57, 58, 59, 60, 61, 62, 63, 31, 32, 33, 64, 65, 66, 67, 102, 103, 104, 105, 109, 110] (by decide +kernel) (by decide +kernel)
set_option maxRecDepth 20000 in
theorem gX10_restore_X3_copyFrom : GoodIn wsX10_restore (wsV RX10 165 RX3 yX3_copyFrom wsX3_copyFrom) := goodIn_app (goodIn_of _ (by decide +kernel)) ggX10_restore_X3_copyFrom
theorem dX10_restore_0 : decode cX10_restore 0 = .ok (.iload_n 1, 1) := by decide +kernel
theorem dX10_restore_1 : decode cX10_restore 1 = .ok (.invokestatic 151, 3) := by decide +kernel
theorem dX10_restore_4 : decode cX10_restore 4 = .ok (.ifCond .ne 6, 3) := by decide +kernel
theorem dX10_restore_7 : decode cX10_restore 7 = .ok (.ldc 59, 2) := by decide +kernel
theorem dX10_restore_9 : decode cX10_restore 9 = .ok (.ireturn, 1) := by decide +kernel
theorem dX10_restore_10 : decode cX10_restore 10 = .ok (.aload_n 0, 1) := by decide +kernel
theorem dX10_restore_11 : decode cX10_restore 11 = .ok (.getfield 10, 3) := by decide +kernel
theorem dX10_restore_14 : decode cX10_restore 14 = .ok (.iload_n 1, 1) := by decide +kernel
theorem dX10_restore_15 : decode cX10_restore 15 = .ok (.invokevirtual 154, 3) := by decide +kernel
theorem dX10_restore_18 : decode cX10_restore 18 = .ok (.astore_n 2, 1) := by decide +kernel
theorem dX10_restore_19 : decode cX10_restore 19 = .ok (.aload_n 2, 1) := by decide +kernel
theorem dX10_restore_20 : decode cX10_restore 20 = .ok (.getfield 158, 3) := by decide +kernel
theorem dX10_restore_23 : decode cX10_restore 23 = .ok (.ifCond .ne 6, 3) := by decide +kernel
theorem dX10_restore_26 : decode cX10_restore 26 = .ok (.ldc 129, 2) := by decide +kernel
theorem dX10_restore_28 : decode cX10_restore 28 = .ok (.ireturn, 1) := by decide +kernel
theorem dX10_restore_29 : decode cX10_restore 29 = .ok (.aload_n 0, 1) := by decide +kernel
theorem dX10_restore_30 : decode cX10_restore 30 = .ok (.getfield 19, 3) := by decide +kernel
theorem dX10_restore_33 : decode cX10_restore 33 = .ok (.aload_n 0, 1) := by decide +kernel
theorem dX10_restore_34 : decode cX10_restore 34 = .ok (.getfield 10, 3) := by decide +kernel
theorem dX10_restore_37 : decode cX10_restore 37 = .ok (.invokevirtual 60, 3) := by decide +kernel
theorem dX10_restore_40 : decode cX10_restore 40 = .ok (.aload_n 0, 1) := by decide +kernel
theorem dX10_restore_41 : decode cX10_restore 41 = .ok (.getfield 10, 3) := by decide +kernel
theorem dX10_restore_44 : decode cX10_restore 44 = .ok (.getfield 64, 3) := by decide +kernel
theorem dX10_restore_47 : decode cX10_restore 47 = .ok (.aload_n 2, 1) := by decide +kernel
theorem dX10_restore_48 : decode cX10_restore 48 = .ok (.getfield 164, 3) := by decide +kernel
theorem dX10_restore_51 : decode cX10_restore 51 = .ok (.invokevirtual 165, 3) := by decide +kernel
theorem dX10_restore_54 : decode cX10_restore 54 = .ok (.aload_n 0, 1) := by decide +kernel
theorem dX10_restore_55 : decode cX10_restore 55 = .ok (.getfield 10, 3) := by decide +kernel
theorem dX10_restore_58 : decode cX10_restore 58 = .ok (.getfield 64, 3) := by decide +kernel
theorem dX10_restore_61 : decode cX10_restore 61 = .ok (.getfield 100, 3) := by decide +kernel
theorem dX10_restore_64 : decode cX10_restore 64 = .ok (.ireturn, 1) := by decide +kernel
set_option maxRecDepth 20000 in
theorem ggX10_undo_X1_bringBack : GoodIn wsX10_undo wsX1_bringBack := goodIn_r _ [9, 10, 11, 12, 13, 14, 15, 16, 17, 18, 8, 19, 20, 21, 22, 23, 24, 25, 26, 27, 28, 29, 30, 31, 32, 33, 34, 35, 36, 37, 38, 39, 40, 41, 42, 43, 44, 45, 46, 47, 48, 49, 50, 51, 52, 53, 54, 55, 56, 57, 58, 59, 60, 61, 62, 63, 64, 65, 66, 67, 68, 69, 70, 71, 72, 73, 80, 81, 82, 83, 84, 85, 86, 87, 88, 89, 90, 91, 92, 93, 94, 95, 96, 97, 98, 99, 100] (by decide +kernel) (by decide +kernel)
set_option maxRecDepth 20000 in
theorem gX10_undo_X1_bringBack : GoodIn wsX10_undo (wsV RX10 172 RX1 yX1_bringBack wsX1_bringBack) := goodIn_app (goodIn_of _ (by decide +kernel)) ggX10_undo_X1_bringBack
theorem dX10_undo_0 : decode cX10_undo 0 = .ok (.aload_n 0, 1) := by decide +kernel
theorem dX10_undo_1 : decode cX10_undo 1 = .ok (.getfield 19, 3) := by decide +kernel
theorem dX10_undo_4 : decode cX10_undo 4 = .ok (.getfield 169, 3) := by decide +kernel
theorem dX10_undo_7 : decode cX10_undo 7 = .ok (.ifCond .ne 6, 3) := by decide +kernel
theorem dX10_undo_10 : decode cX10_undo 10 = .ok (.ldc 129, 2) := by decide +kernel
theorem dX10_undo_12 : decode cX10_undo 12 = .ok (.ireturn, 1) := by decide +kernel
theorem dX10_undo_13 : decode cX10_undo 13 = .ok (.aload_n 0, 1) := by decide +kernel
theorem dX10_undo_14 : decode cX10_undo 14 = .ok (.getfield 19, 3) := by decide +kernel
theorem dX10_undo_17 : decode cX10_undo 17 = .ok (.aload_n 0, 1) := by decide +kernel
theorem dX10_undo_18 : decode cX10_undo 18 = .ok (.getfield 10, 3) := by decide +kernel
theorem dX10_undo_21 : decode cX10_undo 21 = .ok (.invokevirtual 172, 3) := by decide +kernel
theorem dX10_undo_24 : decode cX10_undo 24 = .ok (.aload_n 0, 1) := by decide +kernel
theorem dX10_undo_25 : decode cX10_undo 25 = .ok (.getfield 19, 3) := by decide +kernel
theorem dX10_undo_28 : decode cX10_undo 28 = .ok (.getfield 169, 3) := by decide +kernel
theorem dX10_undo_31 : decode cX10_undo 31 = .ok (.ireturn, 1) := by decide +kernel
set_option maxRecDepth 20000 in
theorem ggX10_load_X9_readItems : GoodIn wsX10_load wsX9_readItems := goodIn_r _ [14, 15, 16, 17, 18, 19, 20, 21, 22, 23, 24, 25, 26, 27, 28, 29, 30, 31, 32, 33, 34, 35, 36, 37, 38, 39, 40, 41, 42, 43, 13, 44, 45, 46, 47, 48, 49, 50, 51, 52, 53, 54, 55, 56, 57, 58, 59, 60, 61, 62, 63, 64, 65, 66, 67, 68, 69, 70, 71, 72, 73, 74, 75, 76, 77, 78, 79, 80, 81, 82, 83, 84, 85, 86, 87, 88, 89, 90, 91, 92, 93, 94, 95, 96, 97, 98, 99, 100, 101, 102, 103, 104, 105, 106, 107, 108, 109, 110, 111, 112, 113, 114, 115, 116, 176, 177, 178, 179, 182, 183, 184, 185, 186, 187, 180, 181] (by decide +kernel) (by decide +kernel)
set_option maxRecDepth 20000 in
theorem gX10_load_X9_readItems : GoodIn wsX10_load (wsV RX10 187 RX9 yX9_readItems wsX9_readItems) := goodIn_app (goodIn_of _ (by decide +kernel)) ggX10_load_X9_readItems
set_option maxRecDepth 20000 in
theorem ggX10_load_X9_hasFailed : GoodIn wsX10_load wsX9_hasFailed := goodIn_r _ [44, 17, 176, 177, 178, 179] (by decide +kernel) (by decide +kernel)
set_option maxRecDepth 20000 in
theorem gX10_load_X9_hasFailed : GoodIn wsX10_load (wsV RX10 191 RX9 yX9_hasFailed wsX9_hasFailed) := goodIn_app (goodIn_of _ (by decide +kernel)) ggX10_load_X9_hasFailed
set_option maxRecDepth 20000 in
theorem ggX10_load_X1_keep : GoodIn wsX10_load wsX1_keep := goodIn_r _ [122, 123, 124, 125, 34, 35, 36, 126, 127, 128, 121, 129, 130, 131, 132, 133, 134, 135, 136, 137, 138, 139, 140, 141, 142, 143, 19, 20, 21, 22, 23, 24, 25, 26, 27, 28, 29, 30, 31, 32, 33, 37, 38, 39, 40, 144, 145, 146, 147, 148, 149, 150, 151, 152, 153, 154, 155, 156, 157, 158, 159, 160, 161, 188, 189, 190, 169, 170, 171, 172, 173, 174, 175, 182, 183, 184, 185, 186, 187, 191, 192, 193, 194, 195] (by decide +kernel) (by decide +kernel)
set_option maxRecDepth 20000 in
theorem gX10_load_X1_keep : GoodIn wsX10_load (wsV RX10 60 RX1 yX1_keep wsX1_keep) := goodIn_app (goodIn_of _ (by decide +kernel)) ggX10_load_X1_keep
set_option maxRecDepth 20000 in
theorem ggX10_load_X3_copyFrom : GoodIn wsX10_load wsX3_copyFrom := goodIn_r _ [22, 23, 24, 25, 26, 27, 28, 29, 30, 31, 32, 33, 34, 35, 36, 37, 38, 39, 40, 182, 183, 184, 185, 186, 187] (by decide +kernel) (by decide +kernel)
set_option maxRecDepth 20000 in
theorem gX10_load_X3_copyFrom : GoodIn wsX10_load (wsV RX10 165 RX3 yX3_copyFrom wsX3_copyFrom) := goodIn_app (goodIn_of _ (by decide +kernel)) ggX10_load_X3_copyFrom
theorem dX10_load_0 : decode cX10_load 0 = .ok (.aload_n 0, 1) := by decide +kernel
theorem dX10_load_1 : decode cX10_load 1 = .ok (.getfield 47, 3) := by decide +kernel
theorem dX10_load_4 : decode cX10_load 4 = .ok (.aload_n 0, 1) := by decide +kernel
theorem dX10_load_5 : decode cX10_load 5 = .ok (.getfield 10, 3) := by decide +kernel
theorem dX10_load_8 : decode cX10_load 8 = .ok (.getfield 64, 3) := by decide +kernel
theorem dX10_load_11 : decode cX10_load 11 = .ok (.invokevirtual 187, 3) := by decide +kernel
theorem dX10_load_14 : decode cX10_load 14 = .ok (.istore_n 1, 1) := by decide +kernel
theorem dX10_load_15 : decode cX10_load 15 = .ok (.aload_n 0, 1) := by decide +kernel
theorem dX10_load_16 : decode cX10_load 16 = .ok (.getfield 47, 3) := by decide +kernel
theorem dX10_load_19 : decode cX10_load 19 = .ok (.invokevirtual 191, 3) := by decide +kernel
theorem dX10_load_22 : decode cX10_load 22 = .ok (.ifCond .eq 14, 3) := by decide +kernel
theorem dX10_load_25 : decode cX10_load 25 = .ok (.ldc 195, 2) := by decide +kernel
theorem dX10_load_27 : decode cX10_load 27 = .ok (.aload_n 0, 1) := by decide +kernel
theorem dX10_load_28 : decode cX10_load 28 = .ok (.getfield 47, 3) := by decide +kernel
theorem dX10_load_31 : decode cX10_load 31 = .ok (.getfield 196, 3) := by decide +kernel
theorem dX10_load_34 : decode cX10_load 34 = .ok (.isub, 1) := by decide +kernel
theorem dX10_load_35 : decode cX10_load 35 = .ok (.ireturn, 1) := by decide +kernel
theorem dX10_load_36 : decode cX10_load 36 = .ok (.aload_n 0, 1) := by decide +kernel
theorem dX10_load_37 : decode cX10_load 37 = .ok (.getfield 19, 3) := by decide +kernel
theorem dX10_load_40 : decode cX10_load 40 = .ok (.aload_n 0, 1) := by decide +kernel
theorem dX10_load_41 : decode cX10_load 41 = .ok (.getfield 10, 3) := by decide +kernel
theorem dX10_load_44 : decode cX10_load 44 = .ok (.invokevirtual 60, 3) := by decide +kernel
theorem dX10_load_47 : decode cX10_load 47 = .ok (.aload_n 0, 1) := by decide +kernel
theorem dX10_load_48 : decode cX10_load 48 = .ok (.getfield 10, 3) := by decide +kernel
theorem dX10_load_51 : decode cX10_load 51 = .ok (.getfield 64, 3) := by decide +kernel
theorem dX10_load_54 : decode cX10_load 54 = .ok (.aload_n 0, 1) := by decide +kernel
theorem dX10_load_55 : decode cX10_load 55 = .ok (.getfield 47, 3) := by decide +kernel
theorem dX10_load_58 : decode cX10_load 58 = .ok (.getfield 199, 3) := by decide +kernel
theorem dX10_load_61 : decode cX10_load 61 = .ok (.invokevirtual 165, 3) := by decide +kernel
theorem dX10_load_64 : decode cX10_load 64 = .ok (.aload_n 0, 1) := by decide +kernel
theorem dX10_load_65 : decode cX10_load 65 = .ok (.getfield 47, 3) := by decide +kernel
theorem dX10_load_68 : decode cX10_load 68 = .ok (.getfield 175, 3) := by decide +kernel
theorem dX10_load_71 : decode cX10_load 71 = .ok (.iconst 0, 1) := by decide +kernel
theorem dX10_load_72 : decode cX10_load 72 = .ok (.putfield 179, 3) := by decide +kernel
theorem dX10_load_75 : decode cX10_load 75 = .ok (.iload_n 1, 1) := by decide +kernel
theorem dX10_load_76 : decode cX10_load 76 = .ok (.ireturn, 1) := by decide +kernel
set_option maxRecDepth 20000 in
theorem ggX10_count_X6_time : GoodIn wsX10_count wsX6_time := goodIn_r _ [16, 17, 18, 19, 20, 21, 22, 23, 24, 60, 61, 62, 63, 64, 65, 66, 83, 84] (by decide +kernel) (by decide +kernel)
set_option maxRecDepth 20000 in
theorem gX10_count_X6_time : GoodIn wsX10_count (wsV RX10 121 RX6 yX6_time wsX6_time) := goodIn_app (goodIn_of _ (by decide +kernel)) ggX10_count_X6_time
set_option maxRecDepth 20000 in
theorem ggX10_count_X3_setting : GoodIn wsX10_count wsX3_setting := goodIn_r _ [29, 30, 31, 19, 20, 21, 22, 23, 24, 67, 68, 69, 70, 83, 84] (by decide +kernel) (by decide +kernel)
set_option maxRecDepth 20000 in
theorem gX10_count_X3_setting : GoodIn wsX10_count (wsV RX10 93 RX3 yX3_setting wsX3_setting) := goodIn_app (goodIn_of _ (by decide +kernel)) ggX10_count_X3_setting
set_option maxRecDepth 20000 in
theorem ggX10_count_X6_snapshotsTaken : GoodIn wsX10_count wsX6_snapshotsTaken := goodIn_r _ [35, 36, 37, 38, 60, 61, 62, 63, 64, 65, 66, 85, 86] (by decide +kernel) (by decide +kernel)
set_option maxRecDepth 20000 in
theorem gX10_count_X6_snapshotsTaken : GoodIn wsX10_count (wsV RX10 207 RX6 yX6_snapshotsTaken wsX6_snapshotsTaken) := goodIn_app (goodIn_of _ (by decide +kernel)) ggX10_count_X6_snapshotsTaken
set_option maxRecDepth 20000 in
theorem ggX10_count_X3_slotsOfScan : GoodIn wsX10_count wsX3_slotsOfScan := goodIn_r _ [42, 43, 44, 45, 46, 28, 47, 48, 31, 19, 20, 21, 22, 23, 24, 67, 68, 69, 70, 83, 84] (by decide +kernel) (by decide +kernel)
set_option maxRecDepth 20000 in
theorem gX10_count_X3_slotsOfScan : GoodIn wsX10_count (wsV RX10 130 RX3 yX3_slotsOfScan wsX3_slotsOfScan) := goodIn_app (goodIn_of _ (by decide +kernel)) ggX10_count_X3_slotsOfScan
set_option maxRecDepth 20000 in
theorem ggX10_count_X3_sourcesOf : GoodIn wsX10_count wsX3_sourcesOf := goodIn_r _ [52, 53, 31, 19, 20, 21, 22, 23, 24, 67, 68, 69, 70, 83, 84] (by decide +kernel) (by decide +kernel)
set_option maxRecDepth 20000 in
theorem gX10_count_X3_sourcesOf : GoodIn wsX10_count (wsV RX10 210 RX3 yX3_sourcesOf wsX3_sourcesOf) := goodIn_app (goodIn_of _ (by decide +kernel)) ggX10_count_X3_sourcesOf
theorem dX10_count_0 : decode cX10_count 0 = .ok (.iload_n 1, 1) := by decide +kernel
theorem dX10_count_1 : decode cX10_count 1 = .ok (.tableswitch 207 0 12 #[67, 75, 86, 98, 110, 122, 133, 141, 152, 160, 171, 183, 195], 67) := by decide +kernel
theorem dX10_count_68 : decode cX10_count 68 = .ok (.aload_n 0, 1) := by decide +kernel
theorem dX10_count_69 : decode cX10_count 69 = .ok (.getfield 10, 3) := by decide +kernel
theorem dX10_count_72 : decode cX10_count 72 = .ok (.invokevirtual 121, 3) := by decide +kernel
theorem dX10_count_75 : decode cX10_count 75 = .ok (.ireturn, 1) := by decide +kernel
theorem dX10_count_76 : decode cX10_count 76 = .ok (.aload_n 0, 1) := by decide +kernel
theorem dX10_count_77 : decode cX10_count 77 = .ok (.getfield 10, 3) := by decide +kernel
theorem dX10_count_80 : decode cX10_count 80 = .ok (.getfield 64, 3) := by decide +kernel
theorem dX10_count_83 : decode cX10_count 83 = .ok (.getfield 100, 3) := by decide +kernel
theorem dX10_count_86 : decode cX10_count 86 = .ok (.ireturn, 1) := by decide +kernel
theorem dX10_count_87 : decode cX10_count 87 = .ok (.aload_n 0, 1) := by decide +kernel
theorem dX10_count_88 : decode cX10_count 88 = .ok (.getfield 10, 3) := by decide +kernel
theorem dX10_count_91 : decode cX10_count 91 = .ok (.getfield 64, 3) := by decide +kernel
theorem dX10_count_94 : decode cX10_count 94 = .ok (.iconst 0, 1) := by decide +kernel
theorem dX10_count_95 : decode cX10_count 95 = .ok (.invokevirtual 93, 3) := by decide +kernel
theorem dX10_count_98 : decode cX10_count 98 = .ok (.ireturn, 1) := by decide +kernel
theorem dX10_count_99 : decode cX10_count 99 = .ok (.aload_n 0, 1) := by decide +kernel
theorem dX10_count_100 : decode cX10_count 100 = .ok (.getfield 10, 3) := by decide +kernel
theorem dX10_count_103 : decode cX10_count 103 = .ok (.getfield 64, 3) := by decide +kernel
theorem dX10_count_106 : decode cX10_count 106 = .ok (.iconst 1, 1) := by decide +kernel
theorem dX10_count_107 : decode cX10_count 107 = .ok (.invokevirtual 93, 3) := by decide +kernel
theorem dX10_count_110 : decode cX10_count 110 = .ok (.ireturn, 1) := by decide +kernel
theorem dX10_count_111 : decode cX10_count 111 = .ok (.aload_n 0, 1) := by decide +kernel
theorem dX10_count_112 : decode cX10_count 112 = .ok (.getfield 10, 3) := by decide +kernel
theorem dX10_count_115 : decode cX10_count 115 = .ok (.getfield 64, 3) := by decide +kernel
theorem dX10_count_118 : decode cX10_count 118 = .ok (.iconst 2, 1) := by decide +kernel
theorem dX10_count_119 : decode cX10_count 119 = .ok (.invokevirtual 93, 3) := by decide +kernel
theorem dX10_count_122 : decode cX10_count 122 = .ok (.ireturn, 1) := by decide +kernel
theorem dX10_count_123 : decode cX10_count 123 = .ok (.aload_n 0, 1) := by decide +kernel
theorem dX10_count_124 : decode cX10_count 124 = .ok (.getfield 10, 3) := by decide +kernel
theorem dX10_count_127 : decode cX10_count 127 = .ok (.getfield 200, 3) := by decide +kernel
theorem dX10_count_130 : decode cX10_count 130 = .ok (.getfield 204, 3) := by decide +kernel
theorem dX10_count_133 : decode cX10_count 133 = .ok (.ireturn, 1) := by decide +kernel
theorem dX10_count_134 : decode cX10_count 134 = .ok (.aload_n 0, 1) := by decide +kernel
theorem dX10_count_135 : decode cX10_count 135 = .ok (.getfield 10, 3) := by decide +kernel
theorem dX10_count_138 : decode cX10_count 138 = .ok (.invokevirtual 207, 3) := by decide +kernel
theorem dX10_count_141 : decode cX10_count 141 = .ok (.ireturn, 1) := by decide +kernel
theorem dX10_count_142 : decode cX10_count 142 = .ok (.aload_n 0, 1) := by decide +kernel
theorem dX10_count_143 : decode cX10_count 143 = .ok (.getfield 10, 3) := by decide +kernel
theorem dX10_count_146 : decode cX10_count 146 = .ok (.getfield 64, 3) := by decide +kernel
theorem dX10_count_149 : decode cX10_count 149 = .ok (.invokevirtual 130, 3) := by decide +kernel
theorem dX10_count_152 : decode cX10_count 152 = .ok (.ireturn, 1) := by decide +kernel
theorem dX10_count_153 : decode cX10_count 153 = .ok (.aload_n 0, 1) := by decide +kernel
theorem dX10_count_154 : decode cX10_count 154 = .ok (.getfield 19, 3) := by decide +kernel
theorem dX10_count_157 : decode cX10_count 157 = .ok (.getfield 169, 3) := by decide +kernel
theorem dX10_count_160 : decode cX10_count 160 = .ok (.ireturn, 1) := by decide +kernel
theorem dX10_count_161 : decode cX10_count 161 = .ok (.aload_n 0, 1) := by decide +kernel
theorem dX10_count_162 : decode cX10_count 162 = .ok (.getfield 47, 3) := by decide +kernel
theorem dX10_count_165 : decode cX10_count 165 = .ok (.getfield 175, 3) := by decide +kernel
theorem dX10_count_168 : decode cX10_count 168 = .ok (.getfield 179, 3) := by decide +kernel
theorem dX10_count_171 : decode cX10_count 171 = .ok (.ireturn, 1) := by decide +kernel
theorem dX10_count_172 : decode cX10_count 172 = .ok (.aload_n 0, 1) := by decide +kernel
theorem dX10_count_173 : decode cX10_count 173 = .ok (.getfield 10, 3) := by decide +kernel
theorem dX10_count_176 : decode cX10_count 176 = .ok (.getfield 64, 3) := by decide +kernel
theorem dX10_count_179 : decode cX10_count 179 = .ok (.iconst 0, 1) := by decide +kernel
theorem dX10_count_180 : decode cX10_count 180 = .ok (.invokevirtual 210, 3) := by decide +kernel
theorem dX10_count_183 : decode cX10_count 183 = .ok (.ireturn, 1) := by decide +kernel
theorem dX10_count_184 : decode cX10_count 184 = .ok (.aload_n 0, 1) := by decide +kernel
theorem dX10_count_185 : decode cX10_count 185 = .ok (.getfield 10, 3) := by decide +kernel
theorem dX10_count_188 : decode cX10_count 188 = .ok (.getfield 64, 3) := by decide +kernel
theorem dX10_count_191 : decode cX10_count 191 = .ok (.iconst 1, 1) := by decide +kernel
theorem dX10_count_192 : decode cX10_count 192 = .ok (.invokevirtual 210, 3) := by decide +kernel
theorem dX10_count_195 : decode cX10_count 195 = .ok (.ireturn, 1) := by decide +kernel
theorem dX10_count_196 : decode cX10_count 196 = .ok (.aload_n 0, 1) := by decide +kernel
theorem dX10_count_197 : decode cX10_count 197 = .ok (.getfield 10, 3) := by decide +kernel
theorem dX10_count_200 : decode cX10_count 200 = .ok (.getfield 64, 3) := by decide +kernel
theorem dX10_count_203 : decode cX10_count 203 = .ok (.iconst 2, 1) := by decide +kernel
theorem dX10_count_204 : decode cX10_count 204 = .ok (.invokevirtual 210, 3) := by decide +kernel
theorem dX10_count_207 : decode cX10_count 207 = .ok (.ireturn, 1) := by decide +kernel
theorem dX10_count_208 : decode cX10_count 208 = .ok (.ldc 59, 2) := by decide +kernel
theorem dX10_count_210 : decode cX10_count 210 = .ok (.ireturn, 1) := by decide +kernel
set_option maxRecDepth 20000 in
theorem ggX10_channel_X10_isChannel : GoodIn wsX10_channel wsX10_isChannel := goodIn_r _ [9, 10, 11, 8, 12] (by decide +kernel) (by decide +kernel)
set_option maxRecDepth 20000 in
theorem gX10_channel_X10_isChannel : GoodIn wsX10_channel (va_wsS RX10 51 yX10_isChannel wsX10_isChannel) := goodIn_app (goodIn_of _ (by decide +kernel)) ggX10_channel_X10_isChannel
set_option maxRecDepth 20000 in
theorem ggX10_channel_X10_isWithin : GoodIn wsX10_channel wsX10_isWithin := goodIn_r _ [12] (by decide +kernel) (by decide +kernel)
set_option maxRecDepth 20000 in
theorem gX10_channel_X10_isWithin : GoodIn wsX10_channel (va_wsS RX10 81 yX10_isWithin wsX10_isWithin) := goodIn_app (goodIn_of _ (by decide +kernel)) ggX10_channel_X10_isWithin
set_option maxRecDepth 20000 in
theorem ggX10_channel_X7_at : GoodIn wsX10_channel wsX7_at := goodIn_r _ [17, 18, 19, 63, 64] (by decide +kernel) (by decide +kernel)
set_option maxRecDepth 20000 in
theorem gX10_channel_X7_at : GoodIn wsX10_channel (wsV RX10 71 RX7 yX7_at wsX7_at) := goodIn_app (goodIn_of _ (by decide +kernel)) ggX10_channel_X7_at
set_option maxRecDepth 20000 in
theorem ggX10_channel_X6_correctedReading : GoodIn wsX10_channel wsX6_correctedReading := goodIn_r _ [24, 25, 26, 27, 28, 14, 15, 16, 17, 18, 19, 29, 30, 31, 32, 33, 34, 35, 36, 37, 38, 39, 52, 53, 54, 55, 56, 57, 58, 63, 64, 59, 60, 61, 62] (by decide +kernel) (by decide +kernel)
set_option maxRecDepth 20000 in
theorem gX10_channel_X6_correctedReading : GoodIn wsX10_channel (wsV RX10 216 RX6 yX6_correctedReading wsX6_correctedReading) := goodIn_app (goodIn_of _ (by decide +kernel)) ggX10_channel_X6_correctedReading
set_option maxRecDepth 20000 in
theorem ggX10_channel_X3_entriesOf : GoodIn wsX10_channel wsX3_entriesOf := goodIn_r _ [43, 44, 45, 35, 14, 15, 16, 17, 18, 19, 59, 60, 61, 62, 63, 64] (by decide +kernel) (by decide +kernel)
set_option maxRecDepth 20000 in
theorem gX10_channel_X3_entriesOf : GoodIn wsX10_channel (wsV RX10 219 RX3 yX3_entriesOf wsX3_entriesOf) := goodIn_app (goodIn_of _ (by decide +kernel)) ggX10_channel_X3_entriesOf
theorem dX10_channel_0 : decode cX10_channel 0 = .ok (.iload_n 1, 1) := by decide +kernel
theorem dX10_channel_1 : decode cX10_channel 1 = .ok (.invokestatic 51, 3) := by decide +kernel
theorem dX10_channel_4 : decode cX10_channel 4 = .ok (.ifCond .eq 13, 3) := by decide +kernel
theorem dX10_channel_7 : decode cX10_channel 7 = .ok (.iload_n 2, 1) := by decide +kernel
theorem dX10_channel_8 : decode cX10_channel 8 = .ok (.iconst 0, 1) := by decide +kernel
theorem dX10_channel_9 : decode cX10_channel 9 = .ok (.bipush 7, 2) := by decide +kernel
theorem dX10_channel_11 : decode cX10_channel 11 = .ok (.invokestatic 81, 3) := by decide +kernel
theorem dX10_channel_14 : decode cX10_channel 14 = .ok (.ifCond .ne 6, 3) := by decide +kernel
theorem dX10_channel_17 : decode cX10_channel 17 = .ok (.ldc 59, 2) := by decide +kernel
theorem dX10_channel_19 : decode cX10_channel 19 = .ok (.ireturn, 1) := by decide +kernel
theorem dX10_channel_20 : decode cX10_channel 20 = .ok (.iload_n 2, 1) := by decide +kernel
theorem dX10_channel_21 : decode cX10_channel 21 = .ok (.tableswitch 61 5 7 #[27, 40, 49], 27) := by decide +kernel
theorem dX10_channel_48 : decode cX10_channel 48 = .ok (.aload_n 0, 1) := by decide +kernel
theorem dX10_channel_49 : decode cX10_channel 49 = .ok (.getfield 10, 3) := by decide +kernel
theorem dX10_channel_52 : decode cX10_channel 52 = .ok (.getfield 213, 3) := by decide +kernel
theorem dX10_channel_55 : decode cX10_channel 55 = .ok (.iload_n 1, 1) := by decide +kernel
theorem dX10_channel_56 : decode cX10_channel 56 = .ok (.iconst 0, 1) := by decide +kernel
theorem dX10_channel_57 : decode cX10_channel 57 = .ok (.invokevirtual 71, 3) := by decide +kernel
theorem dX10_channel_60 : decode cX10_channel 60 = .ok (.ireturn, 1) := by decide +kernel
theorem dX10_channel_61 : decode cX10_channel 61 = .ok (.aload_n 0, 1) := by decide +kernel
theorem dX10_channel_62 : decode cX10_channel 62 = .ok (.getfield 10, 3) := by decide +kernel
theorem dX10_channel_65 : decode cX10_channel 65 = .ok (.iload_n 1, 1) := by decide +kernel
theorem dX10_channel_66 : decode cX10_channel 66 = .ok (.invokevirtual 216, 3) := by decide +kernel
theorem dX10_channel_69 : decode cX10_channel 69 = .ok (.ireturn, 1) := by decide +kernel
theorem dX10_channel_70 : decode cX10_channel 70 = .ok (.aload_n 0, 1) := by decide +kernel
theorem dX10_channel_71 : decode cX10_channel 71 = .ok (.getfield 10, 3) := by decide +kernel
theorem dX10_channel_74 : decode cX10_channel 74 = .ok (.getfield 64, 3) := by decide +kernel
theorem dX10_channel_77 : decode cX10_channel 77 = .ok (.iload_n 1, 1) := by decide +kernel
theorem dX10_channel_78 : decode cX10_channel 78 = .ok (.invokevirtual 219, 3) := by decide +kernel
theorem dX10_channel_81 : decode cX10_channel 81 = .ok (.ireturn, 1) := by decide +kernel
theorem dX10_channel_82 : decode cX10_channel 82 = .ok (.aload_n 0, 1) := by decide +kernel
theorem dX10_channel_83 : decode cX10_channel 83 = .ok (.getfield 10, 3) := by decide +kernel
theorem dX10_channel_86 : decode cX10_channel 86 = .ok (.getfield 64, 3) := by decide +kernel
theorem dX10_channel_89 : decode cX10_channel 89 = .ok (.getfield 67, 3) := by decide +kernel
theorem dX10_channel_92 : decode cX10_channel 92 = .ok (.iload_n 1, 1) := by decide +kernel
theorem dX10_channel_93 : decode cX10_channel 93 = .ok (.iload_n 2, 1) := by decide +kernel
theorem dX10_channel_94 : decode cX10_channel 94 = .ok (.invokevirtual 71, 3) := by decide +kernel
theorem dX10_channel_97 : decode cX10_channel 97 = .ok (.ireturn, 1) := by decide +kernel
set_option maxRecDepth 20000 in
theorem ggX10_entry_X10_isWithin : GoodIn wsX10_entry wsX10_isWithin := goodIn_r _ [9] (by decide +kernel) (by decide +kernel)
set_option maxRecDepth 20000 in
theorem gX10_entry_X10_isWithin : GoodIn wsX10_entry (va_wsS RX10 81 yX10_isWithin wsX10_isWithin) := goodIn_app (goodIn_of _ (by decide +kernel)) ggX10_entry_X10_isWithin
set_option maxRecDepth 20000 in
theorem ggX10_entry_X10_isEntry : GoodIn wsX10_entry wsX10_isEntry := goodIn_r _ [13, 2, 3, 14, 6, 7, 8, 9, 22, 23, 24, 25, 26, 27, 28, 29, 30, 31, 32, 33, 34, 35, 36, 37, 38] (by decide +kernel) (by decide +kernel)
set_option maxRecDepth 20000 in
theorem gX10_entry_X10_isEntry : GoodIn wsX10_entry (wsV RX10 111 RX10 yX10_isEntry wsX10_isEntry) := goodIn_app (goodIn_of _ (by decide +kernel)) ggX10_entry_X10_isEntry
set_option maxRecDepth 20000 in
theorem ggX10_entry_X7_at : GoodIn wsX10_entry wsX7_at := goodIn_r _ [19, 20, 21, 39, 40] (by decide +kernel) (by decide +kernel)
set_option maxRecDepth 20000 in
theorem gX10_entry_X7_at : GoodIn wsX10_entry (wsV RX10 71 RX7 yX7_at wsX7_at) := goodIn_app (goodIn_of _ (by decide +kernel)) ggX10_entry_X7_at
theorem dX10_entry_0 : decode cX10_entry 0 = .ok (.iload_n 1, 1) := by decide +kernel
theorem dX10_entry_1 : decode cX10_entry 1 = .ok (.ifCond .lt 12, 3) := by decide +kernel
theorem dX10_entry_4 : decode cX10_entry 4 = .ok (.iload_n 2, 1) := by decide +kernel
theorem dX10_entry_5 : decode cX10_entry 5 = .ok (.iconst 0, 1) := by decide +kernel
theorem dX10_entry_6 : decode cX10_entry 6 = .ok (.iconst 1, 1) := by decide +kernel
theorem dX10_entry_7 : decode cX10_entry 7 = .ok (.invokestatic 81, 3) := by decide +kernel
theorem dX10_entry_10 : decode cX10_entry 10 = .ok (.ifCond .ne 6, 3) := by decide +kernel
theorem dX10_entry_13 : decode cX10_entry 13 = .ok (.ldc 59, 2) := by decide +kernel
theorem dX10_entry_15 : decode cX10_entry 15 = .ok (.ireturn, 1) := by decide +kernel
theorem dX10_entry_16 : decode cX10_entry 16 = .ok (.aload_n 0, 1) := by decide +kernel
theorem dX10_entry_17 : decode cX10_entry 17 = .ok (.iload_n 1, 1) := by decide +kernel
theorem dX10_entry_18 : decode cX10_entry 18 = .ok (.invokevirtual 111, 3) := by decide +kernel
theorem dX10_entry_21 : decode cX10_entry 21 = .ok (.ifCond .eq 21, 3) := by decide +kernel
theorem dX10_entry_24 : decode cX10_entry 24 = .ok (.aload_n 0, 1) := by decide +kernel
theorem dX10_entry_25 : decode cX10_entry 25 = .ok (.getfield 10, 3) := by decide +kernel
theorem dX10_entry_28 : decode cX10_entry 28 = .ok (.getfield 64, 3) := by decide +kernel
theorem dX10_entry_31 : decode cX10_entry 31 = .ok (.getfield 118, 3) := by decide +kernel
theorem dX10_entry_34 : decode cX10_entry 34 = .ok (.iload_n 1, 1) := by decide +kernel
theorem dX10_entry_35 : decode cX10_entry 35 = .ok (.iload_n 2, 1) := by decide +kernel
theorem dX10_entry_36 : decode cX10_entry 36 = .ok (.invokevirtual 71, 3) := by decide +kernel
theorem dX10_entry_39 : decode cX10_entry 39 = .ok (.goto 5, 3) := by decide +kernel
theorem dX10_entry_42 : decode cX10_entry 42 = .ok (.ldc 222, 2) := by decide +kernel
theorem dX10_entry_44 : decode cX10_entry 44 = .ok (.ireturn, 1) := by decide +kernel
set_option maxRecDepth 20000 in
theorem ggX10_value_X10_isChannel : GoodIn wsX10_value wsX10_isChannel := goodIn_r _ [7, 8, 9, 6, 10] (by decide +kernel) (by decide +kernel)
set_option maxRecDepth 20000 in
theorem gX10_value_X10_isChannel : GoodIn wsX10_value (va_wsS RX10 51 yX10_isChannel wsX10_isChannel) := goodIn_app (goodIn_of _ (by decide +kernel)) ggX10_value_X10_isChannel
set_option maxRecDepth 20000 in
theorem ggX10_value_X10_isWithin : GoodIn wsX10_value wsX10_isWithin := goodIn_r _ [10] (by decide +kernel) (by decide +kernel)
set_option maxRecDepth 20000 in
theorem gX10_value_X10_isWithin : GoodIn wsX10_value (va_wsS RX10 81 yX10_isWithin wsX10_isWithin) := goodIn_app (goodIn_of _ (by decide +kernel)) ggX10_value_X10_isWithin
set_option maxRecDepth 20000 in
theorem ggX10_value_X3_valueAt : GoodIn wsX10_value wsX3_valueAt := goodIn_r _ [15, 16, 17, 18, 19, 20, 21, 22, 23, 24, 25, 26, 14, 27, 28, 29, 30, 31, 32, 33, 34, 35, 36, 37, 38, 39, 40, 41, 42, 56, 57, 58, 59, 60, 61] (by decide +kernel) (by decide +kernel)
set_option maxRecDepth 20000 in
theorem gX10_value_X3_valueAt : GoodIn wsX10_value (wsV RX10 223 RX3 yX3_valueAt wsX3_valueAt) := goodIn_app (goodIn_of _ (by decide +kernel)) ggX10_value_X3_valueAt
theorem dX10_value_0 : decode cX10_value 0 = .ok (.iload_n 1, 1) := by decide +kernel
theorem dX10_value_1 : decode cX10_value 1 = .ok (.invokestatic 51, 3) := by decide +kernel
theorem dX10_value_4 : decode cX10_value 4 = .ok (.ifCond .eq 14, 3) := by decide +kernel
theorem dX10_value_7 : decode cX10_value 7 = .ok (.iload_n 2, 1) := by decide +kernel
theorem dX10_value_8 : decode cX10_value 8 = .ok (.iconst 0, 1) := by decide +kernel
theorem dX10_value_9 : decode cX10_value 9 = .ok (.sipush 9999, 3) := by decide +kernel
theorem dX10_value_12 : decode cX10_value 12 = .ok (.invokestatic 81, 3) := by decide +kernel
theorem dX10_value_15 : decode cX10_value 15 = .ok (.ifCond .ne 6, 3) := by decide +kernel
theorem dX10_value_18 : decode cX10_value 18 = .ok (.ldc 59, 2) := by decide +kernel
theorem dX10_value_20 : decode cX10_value 20 = .ok (.ireturn, 1) := by decide +kernel
theorem dX10_value_21 : decode cX10_value 21 = .ok (.aload_n 0, 1) := by decide +kernel
theorem dX10_value_22 : decode cX10_value 22 = .ok (.getfield 10, 3) := by decide +kernel
theorem dX10_value_25 : decode cX10_value 25 = .ok (.getfield 64, 3) := by decide +kernel
theorem dX10_value_28 : decode cX10_value 28 = .ok (.iload_n 1, 1) := by decide +kernel
theorem dX10_value_29 : decode cX10_value 29 = .ok (.iload_n 2, 1) := by decide +kernel
theorem dX10_value_30 : decode cX10_value 30 = .ok (.invokevirtual 223, 3) := by decide +kernel
theorem dX10_value_33 : decode cX10_value 33 = .ok (.ireturn, 1) := by decide +kernel
set_option maxRecDepth 20000 in
theorem ggX10_sample_X10_isWithin : GoodIn wsX10_sample wsX10_isWithin := goodIn_r _ [9] (by decide +kernel) (by decide +kernel)
set_option maxRecDepth 20000 in
theorem gX10_sample_X10_isWithin : GoodIn wsX10_sample (va_wsS RX10 81 yX10_isWithin wsX10_isWithin) := goodIn_app (goodIn_of _ (by decide +kernel)) ggX10_sample_X10_isWithin
set_option maxRecDepth 20000 in
theorem ggX10_sample_X2_part : GoodIn wsX10_sample wsX2_part := goodIn_r _ [14, 15, 16, 17, 18, 19, 20, 21, 22, 23, 24, 25, 26, 27, 41, 42, 43, 44, 45] (by decide +kernel) (by decide +kernel)
set_option maxRecDepth 20000 in
theorem gX10_sample_X2_part : GoodIn wsX10_sample (wsV RX10 226 RX2 yX2_part wsX2_part) := goodIn_app (goodIn_of _ (by decide +kernel)) ggX10_sample_X2_part
theorem dX10_sample_0 : decode cX10_sample 0 = .ok (.iload_n 1, 1) := by decide +kernel
theorem dX10_sample_1 : decode cX10_sample 1 = .ok (.ifCond .lt 12, 3) := by decide +kernel
theorem dX10_sample_4 : decode cX10_sample 4 = .ok (.iload_n 2, 1) := by decide +kernel
theorem dX10_sample_5 : decode cX10_sample 5 = .ok (.iconst 0, 1) := by decide +kernel
theorem dX10_sample_6 : decode cX10_sample 6 = .ok (.iconst 4, 1) := by decide +kernel
theorem dX10_sample_7 : decode cX10_sample 7 = .ok (.invokestatic 81, 3) := by decide +kernel
theorem dX10_sample_10 : decode cX10_sample 10 = .ok (.ifCond .ne 6, 3) := by decide +kernel
theorem dX10_sample_13 : decode cX10_sample 13 = .ok (.ldc 59, 2) := by decide +kernel
theorem dX10_sample_15 : decode cX10_sample 15 = .ok (.ireturn, 1) := by decide +kernel
theorem dX10_sample_16 : decode cX10_sample 16 = .ok (.iload_n 1, 1) := by decide +kernel
theorem dX10_sample_17 : decode cX10_sample 17 = .ok (.aload_n 0, 1) := by decide +kernel
theorem dX10_sample_18 : decode cX10_sample 18 = .ok (.getfield 10, 3) := by decide +kernel
theorem dX10_sample_21 : decode cX10_sample 21 = .ok (.getfield 200, 3) := by decide +kernel
theorem dX10_sample_24 : decode cX10_sample 24 = .ok (.getfield 204, 3) := by decide +kernel
theorem dX10_sample_27 : decode cX10_sample 27 = .ok (.if_icmp .ge 18, 3) := by decide +kernel
theorem dX10_sample_30 : decode cX10_sample 30 = .ok (.aload_n 0, 1) := by decide +kernel
theorem dX10_sample_31 : decode cX10_sample 31 = .ok (.getfield 10, 3) := by decide +kernel
theorem dX10_sample_34 : decode cX10_sample 34 = .ok (.getfield 200, 3) := by decide +kernel
theorem dX10_sample_37 : decode cX10_sample 37 = .ok (.iload_n 1, 1) := by decide +kernel
theorem dX10_sample_38 : decode cX10_sample 38 = .ok (.iload_n 2, 1) := by decide +kernel
theorem dX10_sample_39 : decode cX10_sample 39 = .ok (.invokevirtual 226, 3) := by decide +kernel
theorem dX10_sample_42 : decode cX10_sample 42 = .ok (.goto 5, 3) := by decide +kernel
theorem dX10_sample_45 : decode cX10_sample 45 = .ok (.ldc 222, 2) := by decide +kernel
theorem dX10_sample_47 : decode cX10_sample 47 = .ok (.ireturn, 1) := by decide +kernel
set_option maxRecDepth 20000 in
theorem ggX10_account_X6_time : GoodIn wsX10_account wsX6_time := goodIn_r _ [8, 9, 10, 11, 12, 13, 14, 15, 16, 28, 29, 30, 31, 32, 33, 34, 35, 36] (by decide +kernel) (by decide +kernel)
set_option maxRecDepth 20000 in
theorem gX10_account_X6_time : GoodIn wsX10_account (wsV RX10 121 RX6 yX6_time wsX6_time) := goodIn_app (goodIn_of _ (by decide +kernel)) ggX10_account_X6_time
set_option maxRecDepth 20000 in
theorem ggX10_account_X10_isWithin : GoodIn wsX10_account wsX10_isWithin := goodIn_r _ [20] (by decide +kernel) (by decide +kernel)
set_option maxRecDepth 20000 in
theorem gX10_account_X10_isWithin : GoodIn wsX10_account (va_wsS RX10 81 yX10_isWithin wsX10_isWithin) := goodIn_app (goodIn_of _ (by decide +kernel)) ggX10_account_X10_isWithin
set_option maxRecDepth 20000 in
theorem ggX10_account_X7_at : GoodIn wsX10_account wsX7_at := goodIn_r _ [14, 15, 16, 35, 36] (by decide +kernel) (by decide +kernel)
set_option maxRecDepth 20000 in
theorem gX10_account_X7_at : GoodIn wsX10_account (wsV RX10 71 RX7 yX7_at wsX7_at) := goodIn_app (goodIn_of _ (by decide +kernel)) ggX10_account_X7_at
theorem dX10_account_0 : decode cX10_account 0 = .ok (.iload_n 1, 1) := by decide +kernel
theorem dX10_account_1 : decode cX10_account 1 = .ok (.bipush 6, 2) := by decide +kernel
theorem dX10_account_3 : decode cX10_account 3 = .ok (.if_icmp .ne 11, 3) := by decide +kernel
theorem dX10_account_6 : decode cX10_account 6 = .ok (.aload_n 0, 1) := by decide +kernel
theorem dX10_account_7 : decode cX10_account 7 = .ok (.getfield 10, 3) := by decide +kernel
theorem dX10_account_10 : decode cX10_account 10 = .ok (.invokevirtual 121, 3) := by decide +kernel
theorem dX10_account_13 : decode cX10_account 13 = .ok (.ireturn, 1) := by decide +kernel
theorem dX10_account_14 : decode cX10_account 14 = .ok (.iload_n 1, 1) := by decide +kernel
theorem dX10_account_15 : decode cX10_account 15 = .ok (.iconst 0, 1) := by decide +kernel
theorem dX10_account_16 : decode cX10_account 16 = .ok (.iconst 5, 1) := by decide +kernel
theorem dX10_account_17 : decode cX10_account 17 = .ok (.invokestatic 81, 3) := by decide +kernel
theorem dX10_account_20 : decode cX10_account 20 = .ok (.ifCond .eq 18, 3) := by decide +kernel
theorem dX10_account_23 : decode cX10_account 23 = .ok (.aload_n 0, 1) := by decide +kernel
theorem dX10_account_24 : decode cX10_account 24 = .ok (.getfield 10, 3) := by decide +kernel
theorem dX10_account_27 : decode cX10_account 27 = .ok (.getfield 133, 3) := by decide +kernel
theorem dX10_account_30 : decode cX10_account 30 = .ok (.iload_n 1, 1) := by decide +kernel
theorem dX10_account_31 : decode cX10_account 31 = .ok (.iconst 0, 1) := by decide +kernel
theorem dX10_account_32 : decode cX10_account 32 = .ok (.invokevirtual 71, 3) := by decide +kernel
theorem dX10_account_35 : decode cX10_account 35 = .ok (.goto 5, 3) := by decide +kernel
theorem dX10_account_38 : decode cX10_account 38 = .ok (.ldc 59, 2) := by decide +kernel
theorem dX10_account_40 : decode cX10_account 40 = .ok (.ireturn, 1) := by decide +kernel
set_option maxRecDepth 20000 in
theorem ggX10_held_X3_readingOf : GoodIn wsX10_held wsX3_readingOf := goodIn_r _ [10, 11, 12, 13, 9, 14, 15, 16, 17, 18, 19, 20, 21, 22, 23, 24, 25, 26, 27, 28, 29, 30, 31, 45, 46, 47, 48, 49, 50] (by decide +kernel) (by decide +kernel)
set_option maxRecDepth 20000 in
theorem gX10_held_X3_readingOf : GoodIn wsX10_held (wsV RX10 229 RX3 yX3_readingOf wsX3_readingOf) := goodIn_app (goodIn_of _ (by decide +kernel)) ggX10_held_X3_readingOf
theorem dX10_held_0 : decode cX10_held 0 = .ok (.iload_n 1, 1) := by decide +kernel
theorem dX10_held_1 : decode cX10_held 1 = .ok (.tableswitch 66 0 2 #[27, 36, 54], 27) := by decide +kernel
theorem dX10_held_28 : decode cX10_held 28 = .ok (.aload_n 0, 1) := by decide +kernel
theorem dX10_held_29 : decode cX10_held 29 = .ok (.getfield 10, 3) := by decide +kernel
theorem dX10_held_32 : decode cX10_held 32 = .ok (.getfield 136, 3) := by decide +kernel
theorem dX10_held_35 : decode cX10_held 35 = .ok (.f2i, 1) := by decide +kernel
theorem dX10_held_36 : decode cX10_held 36 = .ok (.ireturn, 1) := by decide +kernel
theorem dX10_held_37 : decode cX10_held 37 = .ok (.aload_n 0, 1) := by decide +kernel
theorem dX10_held_38 : decode cX10_held 38 = .ok (.getfield 10, 3) := by decide +kernel
theorem dX10_held_41 : decode cX10_held 41 = .ok (.getfield 64, 3) := by decide +kernel
theorem dX10_held_44 : decode cX10_held 44 = .ok (.aload_n 0, 1) := by decide +kernel
theorem dX10_held_45 : decode cX10_held 45 = .ok (.getfield 10, 3) := by decide +kernel
theorem dX10_held_48 : decode cX10_held 48 = .ok (.getfield 136, 3) := by decide +kernel
theorem dX10_held_51 : decode cX10_held 51 = .ok (.invokevirtual 229, 3) := by decide +kernel
theorem dX10_held_54 : decode cX10_held 54 = .ok (.ireturn, 1) := by decide +kernel
theorem dX10_held_55 : decode cX10_held 55 = .ok (.aload_n 0, 1) := by decide +kernel
theorem dX10_held_56 : decode cX10_held 56 = .ok (.getfield 10, 3) := by decide +kernel
theorem dX10_held_59 : decode cX10_held 59 = .ok (.getfield 136, 3) := by decide +kernel
theorem dX10_held_62 : decode cX10_held 62 = .ok (.ldc 233, 2) := by decide +kernel
theorem dX10_held_64 : decode cX10_held 64 = .ok (.fmul, 1) := by decide +kernel
theorem dX10_held_65 : decode cX10_held 65 = .ok (.f2i, 1) := by decide +kernel
theorem dX10_held_66 : decode cX10_held 66 = .ok (.ireturn, 1) := by decide +kernel
theorem dX10_held_67 : decode cX10_held 67 = .ok (.ldc 59, 2) := by decide +kernel
theorem dX10_held_69 : decode cX10_held 69 = .ok (.ireturn, 1) := by decide +kernel
set_option maxRecDepth 20000 in
theorem ggX10_would_X10_isEntry : GoodIn wsX10_would wsX10_isEntry := goodIn_r _ [11, 2, 3, 12, 13, 14, 10, 15, 103, 104, 105, 106, 107, 108, 109, 110, 111, 112, 113, 114, 115, 121, 122, 123, 124] (by decide +kernel) (by decide +kernel)
set_option maxRecDepth 20000 in
theorem gX10_would_X10_isEntry : GoodIn wsX10_would (wsV RX10 111 RX10 yX10_isEntry wsX10_isEntry) := goodIn_app (goodIn_of _ (by decide +kernel)) ggX10_would_X10_isEntry
set_option maxRecDepth 20000 in
theorem ggX10_would_X10_isWithin : GoodIn wsX10_would wsX10_isWithin := goodIn_r _ [15] (by decide +kernel) (by decide +kernel)
set_option maxRecDepth 20000 in
theorem gX10_would_X10_isWithin : GoodIn wsX10_would (va_wsS RX10 81 yX10_isWithin wsX10_isWithin) := goodIn_app (goodIn_of _ (by decide +kernel)) ggX10_would_X10_isWithin
set_option maxRecDepth 20000 in
theorem ggX10_would_X10_tryEntries : GoodIn wsX10_would wsX10_tryEntries := goodIn_r _ [19, 4, 2, 20, 6, 21, 22, 23, 24, 25, 26, 27, 28, 29, 30, 31, 32, 33, 34, 35, 36, 37, 38, 39, 40, 41, 42, 43, 44, 45, 46, 47, 48, 49, 50, 51, 52, 53, 54, 55, 56, 57, 58, 59, 60, 61, 62, 63, 64, 65, 66, 67, 68, 69, 70, 71, 72, 73, 74, 75, 76, 77, 78, 79, 80, 81, 82, 83, 84, 85, 86, 87, 88, 89, 90, 91, 92, 93, 94, 10, 95, 96, 97, 98, 103, 104, 105, 106, 107, 108, 109, 110, 111, 112, 113, 114, 115, 116, 117, 118, 119, 120, 125, 126, 121, 122, 123, 124] (by decide +kernel) (by decide +kernel)
set_option maxRecDepth 20000 in
theorem gX10_would_X10_tryEntries : GoodIn wsX10_would (wsV RX10 234 RX10 yX10_tryEntries wsX10_tryEntries) := goodIn_app (goodIn_of _ (by decide +kernel)) ggX10_would_X10_tryEntries
set_option maxRecDepth 20000 in
theorem ggX10_would_X0_error : GoodIn wsX10_would wsX0_error := goodIn_r _ [102, 56, 55, 116, 117, 118, 119, 120] (by decide +kernel) (by decide +kernel)
set_option maxRecDepth 20000 in
theorem gX10_would_X0_error : GoodIn wsX10_would (wsV RX10 244 RX0 yX0_error wsX0_error) := goodIn_app (goodIn_of _ (by decide +kernel)) ggX10_would_X0_error
theorem dX10_would_0 : decode cX10_would 0 = .ok (.aload_n 0, 1) := by decide +kernel
theorem dX10_would_1 : decode cX10_would 1 = .ok (.iload_n 1, 1) := by decide +kernel
theorem dX10_would_2 : decode cX10_would 2 = .ok (.invokevirtual 111, 3) := by decide +kernel
theorem dX10_would_5 : decode cX10_would 5 = .ok (.ifCond .eq 12, 3) := by decide +kernel
theorem dX10_would_8 : decode cX10_would 8 = .ok (.iload_n 2, 1) := by decide +kernel
theorem dX10_would_9 : decode cX10_would 9 = .ok (.iconst 0, 1) := by decide +kernel
theorem dX10_would_10 : decode cX10_would 10 = .ok (.iconst 2, 1) := by decide +kernel
theorem dX10_would_11 : decode cX10_would 11 = .ok (.invokestatic 81, 3) := by decide +kernel
theorem dX10_would_14 : decode cX10_would 14 = .ok (.ifCond .ne 6, 3) := by decide +kernel
theorem dX10_would_17 : decode cX10_would 17 = .ok (.ldc 59, 2) := by decide +kernel
theorem dX10_would_19 : decode cX10_would 19 = .ok (.ireturn, 1) := by decide +kernel
theorem dX10_would_20 : decode cX10_would 20 = .ok (.aload_n 0, 1) := by decide +kernel
theorem dX10_would_21 : decode cX10_would 21 = .ok (.aload_n 0, 1) := by decide +kernel
theorem dX10_would_22 : decode cX10_would 22 = .ok (.getfield 10, 3) := by decide +kernel
theorem dX10_would_25 : decode cX10_would 25 = .ok (.getfield 64, 3) := by decide +kernel
theorem dX10_would_28 : decode cX10_would 28 = .ok (.iload_n 1, 1) := by decide +kernel
theorem dX10_would_29 : decode cX10_would 29 = .ok (.iconst 1, 1) := by decide +kernel
theorem dX10_would_30 : decode cX10_would 30 = .ok (.iadd, 1) := by decide +kernel
theorem dX10_would_31 : decode cX10_would 31 = .ok (.invokevirtual 234, 3) := by decide +kernel
theorem dX10_would_34 : decode cX10_would 34 = .ok (.pop, 1) := by decide +kernel
theorem dX10_would_35 : decode cX10_would 35 = .ok (.iload_n 2, 1) := by decide +kernel
theorem dX10_would_36 : decode cX10_would 36 = .ok (.lookupswitch 44 #[(0, 28), (1, 36)], 28) := by decide +kernel
theorem dX10_would_64 : decode cX10_would 64 = .ok (.aload_n 0, 1) := by decide +kernel
theorem dX10_would_65 : decode cX10_would 65 = .ok (.getfield 26, 3) := by decide +kernel
theorem dX10_would_68 : decode cX10_would 68 = .ok (.getfield 238, 3) := by decide +kernel
theorem dX10_would_71 : decode cX10_would 71 = .ok (.ireturn, 1) := by decide +kernel
theorem dX10_would_72 : decode cX10_would 72 = .ok (.aload_n 0, 1) := by decide +kernel
theorem dX10_would_73 : decode cX10_would 73 = .ok (.getfield 26, 3) := by decide +kernel
theorem dX10_would_76 : decode cX10_would 76 = .ok (.getfield 241, 3) := by decide +kernel
theorem dX10_would_79 : decode cX10_would 79 = .ok (.ireturn, 1) := by decide +kernel
theorem dX10_would_80 : decode cX10_would 80 = .ok (.aload_n 0, 1) := by decide +kernel
theorem dX10_would_81 : decode cX10_would 81 = .ok (.getfield 26, 3) := by decide +kernel
theorem dX10_would_84 : decode cX10_would 84 = .ok (.invokevirtual 244, 3) := by decide +kernel
theorem dX10_would_87 : decode cX10_would 87 = .ok (.ireturn, 1) := by decide +kernel
set_option maxRecDepth 20000 in
theorem ggX10_why_X10_isEntry : GoodIn wsX10_why wsX10_isEntry := goodIn_r _ [12, 2, 3, 13, 14, 15, 11, 16, 105, 106, 107, 108, 109, 110, 111, 112, 113, 114, 115, 116, 117, 123, 124, 125, 126] (by decide +kernel) (by decide +kernel)
set_option maxRecDepth 20000 in
theorem gX10_why_X10_isEntry : GoodIn wsX10_why (wsV RX10 111 RX10 yX10_isEntry wsX10_isEntry) := goodIn_app (goodIn_of _ (by decide +kernel)) ggX10_why_X10_isEntry
set_option maxRecDepth 20000 in
theorem ggX10_why_X10_tryEntries : GoodIn wsX10_why wsX10_tryEntries := goodIn_r _ [20, 4, 2, 21, 5, 22, 23, 24, 25, 26, 27, 28, 29, 30, 31, 32, 33, 34, 35, 36, 37, 38, 39, 40, 41, 42, 43, 44, 45, 46, 47, 48, 49, 50, 51, 52, 53, 54, 55, 56, 57, 58, 59, 60, 61, 62, 63, 64, 65, 66, 67, 68, 69, 70, 71, 72, 73, 74, 75, 76, 77, 78, 79, 80, 81, 82, 83, 84, 85, 86, 87, 88, 89, 90, 91, 92, 93, 94, 95, 11, 96, 97, 98, 99, 105, 106, 107, 108, 109, 110, 111, 112, 113, 114, 115, 116, 117, 118, 119, 120, 121, 122, 127, 128, 123, 124, 125, 126] (by decide +kernel) (by decide +kernel)
set_option maxRecDepth 20000 in
theorem gX10_why_X10_tryEntries : GoodIn wsX10_why (wsV RX10 234 RX10 yX10_tryEntries wsX10_tryEntries) := goodIn_app (goodIn_of _ (by decide +kernel)) ggX10_why_X10_tryEntries
set_option maxRecDepth 20000 in
theorem ggX10_why_X0_error : GoodIn wsX10_why wsX0_error := goodIn_r _ [103, 57, 56, 118, 119, 120, 121, 122] (by decide +kernel) (by decide +kernel)
set_option maxRecDepth 20000 in
theorem gX10_why_X0_error : GoodIn wsX10_why (wsV RX10 244 RX0 yX0_error wsX0_error) := goodIn_app (goodIn_of _ (by decide +kernel)) ggX10_why_X0_error
set_option maxRecDepth 20000 in
theorem ggX10_why_X10_readingWith : GoodIn wsX10_why wsX10_readingWith := goodIn_r _ [96, 97, 98, 99, 71, 24, 72] (by decide +kernel) (by decide +kernel)
set_option maxRecDepth 20000 in
theorem gX10_why_X10_readingWith : GoodIn wsX10_why (va_wsS RX10 248 yX10_readingWith wsX10_readingWith) := goodIn_app (goodIn_of _ (by decide +kernel)) ggX10_why_X10_readingWith
theorem dX10_why_0 : decode cX10_why 0 = .ok (.aload_n 0, 1) := by decide +kernel
theorem dX10_why_1 : decode cX10_why 1 = .ok (.iload_n 1, 1) := by decide +kernel
theorem dX10_why_2 : decode cX10_why 2 = .ok (.invokevirtual 111, 3) := by decide +kernel
theorem dX10_why_5 : decode cX10_why 5 = .ok (.ifCond .ne 6, 3) := by decide +kernel
theorem dX10_why_8 : decode cX10_why 8 = .ok (.ldc 59, 2) := by decide +kernel
theorem dX10_why_10 : decode cX10_why 10 = .ok (.ireturn, 1) := by decide +kernel
theorem dX10_why_11 : decode cX10_why 11 = .ok (.aload_n 0, 1) := by decide +kernel
theorem dX10_why_12 : decode cX10_why 12 = .ok (.aload_n 0, 1) := by decide +kernel
theorem dX10_why_13 : decode cX10_why 13 = .ok (.getfield 10, 3) := by decide +kernel
theorem dX10_why_16 : decode cX10_why 16 = .ok (.getfield 64, 3) := by decide +kernel
theorem dX10_why_19 : decode cX10_why 19 = .ok (.iload_n 1, 1) := by decide +kernel
theorem dX10_why_20 : decode cX10_why 20 = .ok (.iconst 1, 1) := by decide +kernel
theorem dX10_why_21 : decode cX10_why 21 = .ok (.iadd, 1) := by decide +kernel
theorem dX10_why_22 : decode cX10_why 22 = .ok (.invokevirtual 234, 3) := by decide +kernel
theorem dX10_why_25 : decode cX10_why 25 = .ok (.pop, 1) := by decide +kernel
theorem dX10_why_26 : decode cX10_why 26 = .ok (.aload_n 0, 1) := by decide +kernel
theorem dX10_why_27 : decode cX10_why 27 = .ok (.getfield 26, 3) := by decide +kernel
theorem dX10_why_30 : decode cX10_why 30 = .ok (.invokevirtual 244, 3) := by decide +kernel
theorem dX10_why_33 : decode cX10_why 33 = .ok (.ifCond .ne 5, 3) := by decide +kernel
theorem dX10_why_36 : decode cX10_why 36 = .ok (.iconst 0, 1) := by decide +kernel
theorem dX10_why_37 : decode cX10_why 37 = .ok (.ireturn, 1) := by decide +kernel
theorem dX10_why_38 : decode cX10_why 38 = .ok (.aload_n 0, 1) := by decide +kernel
theorem dX10_why_39 : decode cX10_why 39 = .ok (.getfield 26, 3) := by decide +kernel
theorem dX10_why_42 : decode cX10_why 42 = .ok (.getfield 241, 3) := by decide +kernel
theorem dX10_why_45 : decode cX10_why 45 = .ok (.ifCond .eq 19, 3) := by decide +kernel
theorem dX10_why_48 : decode cX10_why 48 = .ok (.aload_n 0, 1) := by decide +kernel
theorem dX10_why_49 : decode cX10_why 49 = .ok (.getfield 26, 3) := by decide +kernel
theorem dX10_why_52 : decode cX10_why 52 = .ok (.getfield 241, 3) := by decide +kernel
theorem dX10_why_55 : decode cX10_why 55 = .ok (.ifCond .le 7, 3) := by decide +kernel
theorem dX10_why_58 : decode cX10_why 58 = .ok (.iconst 1, 1) := by decide +kernel
theorem dX10_why_59 : decode cX10_why 59 = .ok (.goto 4, 3) := by decide +kernel
theorem dX10_why_62 : decode cX10_why 62 = .ok (.iconst 2, 1) := by decide +kernel
theorem dX10_why_63 : decode cX10_why 63 = .ok (.ireturn, 1) := by decide +kernel
theorem dX10_why_64 : decode cX10_why 64 = .ok (.aload_n 0, 1) := by decide +kernel
theorem dX10_why_65 : decode cX10_why 65 = .ok (.getfield 26, 3) := by decide +kernel
theorem dX10_why_68 : decode cX10_why 68 = .ok (.getfield 247, 3) := by decide +kernel
theorem dX10_why_71 : decode cX10_why 71 = .ok (.sipush 1000, 3) := by decide +kernel
theorem dX10_why_74 : decode cX10_why 74 = .ok (.iconst 0, 1) := by decide +kernel
theorem dX10_why_75 : decode cX10_why 75 = .ok (.invokestatic 248, 3) := by decide +kernel
theorem dX10_why_78 : decode cX10_why 78 = .ok (.aload_n 0, 1) := by decide +kernel
theorem dX10_why_79 : decode cX10_why 79 = .ok (.getfield 26, 3) := by decide +kernel
theorem dX10_why_82 : decode cX10_why 82 = .ok (.getfield 252, 3) := by decide +kernel
theorem dX10_why_85 : decode cX10_why 85 = .ok (.if_icmp .ne 7, 3) := by decide +kernel
theorem dX10_why_88 : decode cX10_why 88 = .ok (.iconst 3, 1) := by decide +kernel
theorem dX10_why_89 : decode cX10_why 89 = .ok (.goto 4, 3) := by decide +kernel
theorem dX10_why_92 : decode cX10_why 92 = .ok (.iconst 4, 1) := by decide +kernel
theorem dX10_why_93 : decode cX10_why 93 = .ok (.ireturn, 1) := by decide +kernel
set_option maxRecDepth 20000 in
theorem ggX10_settleFor_X10_isEntry : GoodIn wsX10_settleFor wsX10_isEntry := goodIn_r _ [17, 2, 3, 18, 19, 20, 16, 21, 108, 109, 110, 111, 112, 113, 114, 115, 116, 117, 118, 119, 120, 126, 127, 128, 129] (by decide +kernel) (by decide +kernel)
set_option maxRecDepth 20000 in
theorem gX10_settleFor_X10_isEntry : GoodIn wsX10_settleFor (wsV RX10 111 RX10 yX10_isEntry wsX10_isEntry) := goodIn_app (goodIn_of _ (by decide +kernel)) ggX10_settleFor_X10_isEntry
set_option maxRecDepth 20000 in
theorem ggX10_settleFor_X10_isWithin : GoodIn wsX10_settleFor wsX10_isWithin := goodIn_r _ [21] (by decide +kernel) (by decide +kernel)
set_option maxRecDepth 20000 in
theorem gX10_settleFor_X10_isWithin : GoodIn wsX10_settleFor (va_wsS RX10 81 yX10_isWithin wsX10_isWithin) := goodIn_app (goodIn_of _ (by decide +kernel)) ggX10_settleFor_X10_isWithin
set_option maxRecDepth 20000 in
theorem ggX10_settleFor_X10_tryEntries : GoodIn wsX10_settleFor wsX10_tryEntries := goodIn_r _ [25, 4, 2, 26, 27, 8, 9, 10, 11, 28, 29, 30, 31, 32, 33, 34, 35, 36, 37, 38, 39, 40, 41, 42, 43, 44, 45, 46, 47, 48, 49, 50, 51, 52, 53, 54, 55, 56, 57, 58, 59, 60, 61, 62, 63, 64, 65, 66, 67, 68, 69, 70, 71, 72, 73, 74, 75, 76, 77, 78, 79, 80, 81, 82, 83, 84, 85, 86, 87, 88, 89, 90, 91, 92, 93, 94, 95, 96, 97, 16, 98, 99, 100, 101, 108, 109, 110, 111, 112, 113, 114, 115, 116, 117, 118, 119, 120, 121, 122, 123, 124, 125, 130, 131, 126, 127, 128, 129] (by decide +kernel) (by decide +kernel)
set_option maxRecDepth 20000 in
theorem gX10_settleFor_X10_tryEntries : GoodIn wsX10_settleFor (wsV RX10 234 RX10 yX10_tryEntries wsX10_tryEntries) := goodIn_app (goodIn_of _ (by decide +kernel)) ggX10_settleFor_X10_tryEntries
set_option maxRecDepth 20000 in
theorem ggX10_settleFor_X7_at : GoodIn wsX10_settleFor wsX7_at := goodIn_r _ [38, 39, 40, 130, 131] (by decide +kernel) (by decide +kernel)
set_option maxRecDepth 20000 in
theorem gX10_settleFor_X7_at : GoodIn wsX10_settleFor (wsV RX10 71 RX7 yX7_at wsX7_at) := goodIn_app (goodIn_of _ (by decide +kernel)) ggX10_settleFor_X7_at
set_option maxRecDepth 20000 in
theorem ggX10_settleFor_X0_start : GoodIn wsX10_settleFor wsX0_start := goodIn_r _ [45, 46, 47, 121, 122, 123, 124, 125] (by decide +kernel) (by decide +kernel)
set_option maxRecDepth 20000 in
theorem gX10_settleFor_X0_start : GoodIn wsX10_settleFor (wsV RX10 140 RX0 yX0_start wsX0_start) := goodIn_app (goodIn_of _ (by decide +kernel)) ggX10_settleFor_X0_start
set_option maxRecDepth 20000 in
theorem ggX10_settleFor_X0_carryOut : GoodIn wsX10_settleFor wsX0_carryOut := goodIn_r _ [57, 47, 58, 46, 59, 60, 61, 62, 63, 64, 65, 66, 67, 35, 36, 37, 38, 39, 40, 68, 69, 70, 71, 72, 73, 10, 74, 75, 76, 77, 78, 79, 80, 81, 82, 83, 84, 85, 86, 87, 88, 89, 90, 91, 44, 92, 93, 94, 95, 96, 97, 16, 98, 99, 100, 101, 121, 122, 123, 124, 125, 126, 127, 128, 129, 130, 131] (by decide +kernel) (by decide +kernel)
set_option maxRecDepth 20000 in
theorem gX10_settleFor_X0_carryOut : GoodIn wsX10_settleFor (wsV RX10 257 RX0 yX0_carryOut wsX0_carryOut) := goodIn_app (goodIn_of _ (by decide +kernel)) ggX10_settleFor_X0_carryOut
set_option maxRecDepth 20000 in
theorem ggX10_settleFor_X0_error : GoodIn wsX10_settleFor wsX0_error := goodIn_r _ [107, 59, 58, 121, 122, 123, 124, 125] (by decide +kernel) (by decide +kernel)
set_option maxRecDepth 20000 in
theorem gX10_settleFor_X0_error : GoodIn wsX10_settleFor (wsV RX10 244 RX0 yX0_error wsX0_error) := goodIn_app (goodIn_of _ (by decide +kernel)) ggX10_settleFor_X0_error
