theorem dX11_init_0 : decode cX11_init 0 = .ok (.aload_n 0, 1) := by decide +kernel
theorem dX11_init_1 : decode cX11_init 1 = .ok (.invokespecial 1, 3) := by decide +kernel
theorem dX11_init_4 : decode cX11_init 4 = .ok (.aload_n 0, 1) := by decide +kernel
theorem dX11_init_5 : decode cX11_init 5 = .ok (.sipush 408, 3) := by decide +kernel
theorem dX11_init_8 : decode cX11_init 8 = .ok (.newarray .int, 2) := by decide +kernel
theorem dX11_init_10 : decode cX11_init 10 = .ok (.putfield 7, 3) := by decide +kernel
theorem dX11_init_13 : decode cX11_init 13 = .ok (.aload_n 0, 1) := by decide +kernel
theorem dX11_init_14 : decode cX11_init 14 = .ok (.sipush 408, 3) := by decide +kernel
theorem dX11_init_17 : decode cX11_init 17 = .ok (.newarray .int, 2) := by decide +kernel
theorem dX11_init_19 : decode cX11_init 19 = .ok (.putfield 13, 3) := by decide +kernel
theorem dX11_init_22 : decode cX11_init 22 = .ok (.aload_n 0, 1) := by decide +kernel
theorem dX11_init_23 : decode cX11_init 23 = .ok (.sipush 2040, 3) := by decide +kernel
theorem dX11_init_26 : decode cX11_init 26 = .ok (.newarray .int, 2) := by decide +kernel
theorem dX11_init_28 : decode cX11_init 28 = .ok (.putfield 16, 3) := by decide +kernel
theorem dX11_init_31 : decode cX11_init 31 = .ok (.aload_n 0, 1) := by decide +kernel
theorem dX11_init_32 : decode cX11_init 32 = .ok (.iconst 5, 1) := by decide +kernel
theorem dX11_init_33 : decode cX11_init 33 = .ok (.newarray .float, 2) := by decide +kernel
theorem dX11_init_35 : decode cX11_init 35 = .ok (.putfield 19, 3) := by decide +kernel
theorem dX11_init_38 : decode cX11_init 38 = .ok (.aload_n 0, 1) := by decide +kernel
theorem dX11_init_39 : decode cX11_init 39 = .ok (.sipush 140, 3) := by decide +kernel
theorem dX11_init_42 : decode cX11_init 42 = .ok (.newarray .int, 2) := by decide +kernel
theorem dX11_init_44 : decode cX11_init 44 = .ok (.putfield 23, 3) := by decide +kernel
theorem dX11_init_47 : decode cX11_init 47 = .ok (.aload_n 0, 1) := by decide +kernel
theorem dX11_init_48 : decode cX11_init 48 = .ok (.bipush 16, 2) := by decide +kernel
theorem dX11_init_50 : decode cX11_init 50 = .ok (.newarray .int, 2) := by decide +kernel
theorem dX11_init_52 : decode cX11_init 52 = .ok (.putfield 26, 3) := by decide +kernel
theorem dX11_init_55 : decode cX11_init 55 = .ok (.aload_n 0, 1) := by decide +kernel
theorem dX11_init_56 : decode cX11_init 56 = .ok (.iconst 0, 1) := by decide +kernel
theorem dX11_init_57 : decode cX11_init 57 = .ok (.putfield 29, 3) := by decide +kernel
theorem dX11_init_60 : decode cX11_init 60 = .ok (.aload_n 0, 1) := by decide +kernel
theorem dX11_init_61 : decode cX11_init 61 = .ok (.getfield 7, 3) := by decide +kernel
theorem dX11_init_64 : decode cX11_init 64 = .ok (.bipush 40, 2) := by decide +kernel
theorem dX11_init_66 : decode cX11_init 66 = .ok (.sipush 2048, 3) := by decide +kernel
theorem dX11_init_69 : decode cX11_init 69 = .ok (.iastore, 1) := by decide +kernel
theorem dX11_init_70 : decode cX11_init 70 = .ok (.aload_n 0, 1) := by decide +kernel
theorem dX11_init_71 : decode cX11_init 71 = .ok (.getfield 7, 3) := by decide +kernel
theorem dX11_init_74 : decode cX11_init 74 = .ok (.bipush 41, 2) := by decide +kernel
theorem dX11_init_76 : decode cX11_init 76 = .ok (.sipush 1000, 3) := by decide +kernel
theorem dX11_init_79 : decode cX11_init 79 = .ok (.iastore, 1) := by decide +kernel
theorem dX11_init_80 : decode cX11_init 80 = .ok (.iconst 0, 1) := by decide +kernel
theorem dX11_init_81 : decode cX11_init 81 = .ok (.istore_n 1, 1) := by decide +kernel
theorem dX11_init_82 : decode cX11_init 82 = .ok (.iload_n 1, 1) := by decide +kernel
theorem dX11_init_83 : decode cX11_init 83 = .ok (.bipush 10, 2) := by decide +kernel
theorem dX11_init_85 : decode cX11_init 85 = .ok (.if_icmp .ge 19, 3) := by decide +kernel
theorem dX11_init_88 : decode cX11_init 88 = .ok (.aload_n 0, 1) := by decide +kernel
theorem dX11_init_89 : decode cX11_init 89 = .ok (.getfield 7, 3) := by decide +kernel
theorem dX11_init_92 : decode cX11_init 92 = .ok (.bipush 78, 2) := by decide +kernel
theorem dX11_init_94 : decode cX11_init 94 = .ok (.iload_n 1, 1) := by decide +kernel
theorem dX11_init_95 : decode cX11_init 95 = .ok (.iadd, 1) := by decide +kernel
theorem dX11_init_96 : decode cX11_init 96 = .ok (.iconst (-1), 1) := by decide +kernel
theorem dX11_init_97 : decode cX11_init 97 = .ok (.iastore, 1) := by decide +kernel
theorem dX11_init_98 : decode cX11_init 98 = .ok (.iinc 1 1, 3) := by decide +kernel
theorem dX11_init_101 : decode cX11_init 101 = .ok (.goto (-19), 3) := by decide +kernel
theorem dX11_init_104 : decode cX11_init 104 = .ok (.return_, 1) := by decide +kernel
theorem dX11_in_0 : decode cX11_in 0 = .ok (.iload_n 0, 1) := by decide +kernel
theorem dX11_in_1 : decode cX11_in 1 = .ok (.iload_n 1, 1) := by decide +kernel
theorem dX11_in_2 : decode cX11_in 2 = .ok (.if_icmp .lt 12, 3) := by decide +kernel
theorem dX11_in_5 : decode cX11_in 5 = .ok (.iload_n 0, 1) := by decide +kernel
theorem dX11_in_6 : decode cX11_in 6 = .ok (.iload_n 2, 1) := by decide +kernel
theorem dX11_in_7 : decode cX11_in 7 = .ok (.if_icmp .gt 7, 3) := by decide +kernel
theorem dX11_in_10 : decode cX11_in 10 = .ok (.iconst 1, 1) := by decide +kernel
theorem dX11_in_11 : decode cX11_in 11 = .ok (.goto 4, 3) := by decide +kernel
theorem dX11_in_14 : decode cX11_in 14 = .ok (.iconst 0, 1) := by decide +kernel
theorem dX11_in_15 : decode cX11_in 15 = .ok (.ireturn, 1) := by decide +kernel
theorem dX11_size_0 : decode cX11_size 0 = .ok (.iload_n 0, 1) := by decide +kernel
theorem dX11_size_1 : decode cX11_size 1 = .ok (.ifCond .ge 8, 3) := by decide +kernel
theorem dX11_size_4 : decode cX11_size 4 = .ok (.iload_n 0, 1) := by decide +kernel
theorem dX11_size_5 : decode cX11_size 5 = .ok (.ineg, 1) := by decide +kernel
theorem dX11_size_6 : decode cX11_size 6 = .ok (.goto 4, 3) := by decide +kernel
theorem dX11_size_9 : decode cX11_size 9 = .ok (.iload_n 0, 1) := by decide +kernel
theorem dX11_size_10 : decode cX11_size 10 = .ok (.ireturn, 1) := by decide +kernel
theorem dX11_down_0 : decode cX11_down 0 = .ok (.iload_n 0, 1) := by decide +kernel
theorem dX11_down_1 : decode cX11_down 1 = .ok (.ifCond .ge 14, 3) := by decide +kernel
theorem dX11_down_4 : decode cX11_down 4 = .ok (.iload_n 1, 1) := by decide +kernel
theorem dX11_down_5 : decode cX11_down 5 = .ok (.iconst 1, 1) := by decide +kernel
theorem dX11_down_6 : decode cX11_down 6 = .ok (.isub, 1) := by decide +kernel
theorem dX11_down_7 : decode cX11_down 7 = .ok (.iload_n 0, 1) := by decide +kernel
theorem dX11_down_8 : decode cX11_down 8 = .ok (.isub, 1) := by decide +kernel
theorem dX11_down_9 : decode cX11_down 9 = .ok (.iload_n 1, 1) := by decide +kernel
theorem dX11_down_10 : decode cX11_down 10 = .ok (.idiv, 1) := by decide +kernel
theorem dX11_down_11 : decode cX11_down 11 = .ok (.ineg, 1) := by decide +kernel
theorem dX11_down_12 : decode cX11_down 12 = .ok (.goto 6, 3) := by decide +kernel
theorem dX11_down_15 : decode cX11_down 15 = .ok (.iload_n 0, 1) := by decide +kernel
theorem dX11_down_16 : decode cX11_down 16 = .ok (.iload_n 1, 1) := by decide +kernel
theorem dX11_down_17 : decode cX11_down 17 = .ok (.idiv, 1) := by decide +kernel
theorem dX11_down_18 : decode cX11_down 18 = .ok (.ireturn, 1) := by decide +kernel
theorem dX11_act_0 : decode cX11_act 0 = .ok (.aload_n 0, 1) := by decide +kernel
theorem dX11_act_1 : decode cX11_act 1 = .ok (.getfield 33, 3) := by decide +kernel
theorem dX11_act_4 : decode cX11_act 4 = .ok (.iconst 5, 1) := by decide +kernel
theorem dX11_act_5 : decode cX11_act 5 = .ok (.if_icmp .ne 73, 3) := by decide +kernel
theorem dX11_act_8 : decode cX11_act 8 = .ok (.iconst 0, 1) := by decide +kernel
theorem dX11_act_9 : decode cX11_act 9 = .ok (.istore_n 1, 1) := by decide +kernel
theorem dX11_act_10 : decode cX11_act 10 = .ok (.iload_n 1, 1) := by decide +kernel
theorem dX11_act_11 : decode cX11_act 11 = .ok (.sipush 1632, 3) := by decide +kernel
theorem dX11_act_14 : decode cX11_act 14 = .ok (.if_icmp .ge 25, 3) := by decide +kernel
theorem dX11_act_17 : decode cX11_act 17 = .ok (.aload_n 0, 1) := by decide +kernel
theorem dX11_act_18 : decode cX11_act 18 = .ok (.getfield 16, 3) := by decide +kernel
theorem dX11_act_21 : decode cX11_act 21 = .ok (.iload_n 1, 1) := by decide +kernel
theorem dX11_act_22 : decode cX11_act 22 = .ok (.aload_n 0, 1) := by decide +kernel
theorem dX11_act_23 : decode cX11_act 23 = .ok (.getfield 16, 3) := by decide +kernel
theorem dX11_act_26 : decode cX11_act 26 = .ok (.iload_n 1, 1) := by decide +kernel
theorem dX11_act_27 : decode cX11_act 27 = .ok (.sipush 408, 3) := by decide +kernel
theorem dX11_act_30 : decode cX11_act 30 = .ok (.iadd, 1) := by decide +kernel
theorem dX11_act_31 : decode cX11_act 31 = .ok (.iaload, 1) := by decide +kernel
theorem dX11_act_32 : decode cX11_act 32 = .ok (.iastore, 1) := by decide +kernel
theorem dX11_act_33 : decode cX11_act 33 = .ok (.iinc 1 1, 3) := by decide +kernel
theorem dX11_act_36 : decode cX11_act 36 = .ok (.goto (-26), 3) := by decide +kernel
theorem dX11_act_39 : decode cX11_act 39 = .ok (.iconst 0, 1) := by decide +kernel
theorem dX11_act_40 : decode cX11_act 40 = .ok (.istore_n 1, 1) := by decide +kernel
theorem dX11_act_41 : decode cX11_act 41 = .ok (.iload_n 1, 1) := by decide +kernel
theorem dX11_act_42 : decode cX11_act 42 = .ok (.iconst 1, 1) := by decide +kernel
theorem dX11_act_43 : decode cX11_act 43 = .ok (.iadd, 1) := by decide +kernel
theorem dX11_act_44 : decode cX11_act 44 = .ok (.iconst 5, 1) := by decide +kernel
theorem dX11_act_45 : decode cX11_act 45 = .ok (.if_icmp .ge 23, 3) := by decide +kernel
theorem dX11_act_48 : decode cX11_act 48 = .ok (.aload_n 0, 1) := by decide +kernel
theorem dX11_act_49 : decode cX11_act 49 = .ok (.getfield 19, 3) := by decide +kernel
theorem dX11_act_52 : decode cX11_act 52 = .ok (.iload_n 1, 1) := by decide +kernel
theorem dX11_act_53 : decode cX11_act 53 = .ok (.aload_n 0, 1) := by decide +kernel
theorem dX11_act_54 : decode cX11_act 54 = .ok (.getfield 19, 3) := by decide +kernel
theorem dX11_act_57 : decode cX11_act 57 = .ok (.iload_n 1, 1) := by decide +kernel
theorem dX11_act_58 : decode cX11_act 58 = .ok (.iconst 1, 1) := by decide +kernel
theorem dX11_act_59 : decode cX11_act 59 = .ok (.iadd, 1) := by decide +kernel
theorem dX11_act_60 : decode cX11_act 60 = .ok (.faload, 1) := by decide +kernel
theorem dX11_act_61 : decode cX11_act 61 = .ok (.fastore, 1) := by decide +kernel
theorem dX11_act_62 : decode cX11_act 62 = .ok (.iinc 1 1, 3) := by decide +kernel
theorem dX11_act_65 : decode cX11_act 65 = .ok (.goto (-24), 3) := by decide +kernel
theorem dX11_act_68 : decode cX11_act 68 = .ok (.aload_n 0, 1) := by decide +kernel
theorem dX11_act_69 : decode cX11_act 69 = .ok (.dup, 1) := by decide +kernel
theorem dX11_act_70 : decode cX11_act 70 = .ok (.getfield 33, 3) := by decide +kernel
theorem dX11_act_73 : decode cX11_act 73 = .ok (.iconst 1, 1) := by decide +kernel
theorem dX11_act_74 : decode cX11_act 74 = .ok (.isub, 1) := by decide +kernel
theorem dX11_act_75 : decode cX11_act 75 = .ok (.putfield 33, 3) := by decide +kernel
theorem dX11_act_78 : decode cX11_act 78 = .ok (.iconst 0, 1) := by decide +kernel
theorem dX11_act_79 : decode cX11_act 79 = .ok (.istore_n 1, 1) := by decide +kernel
theorem dX11_act_80 : decode cX11_act 80 = .ok (.iload_n 1, 1) := by decide +kernel
theorem dX11_act_81 : decode cX11_act 81 = .ok (.sipush 408, 3) := by decide +kernel
theorem dX11_act_84 : decode cX11_act 84 = .ok (.if_icmp .ge 30, 3) := by decide +kernel
theorem dX11_act_87 : decode cX11_act 87 = .ok (.aload_n 0, 1) := by decide +kernel
theorem dX11_act_88 : decode cX11_act 88 = .ok (.getfield 16, 3) := by decide +kernel
theorem dX11_act_91 : decode cX11_act 91 = .ok (.sipush 408, 3) := by decide +kernel
theorem dX11_act_94 : decode cX11_act 94 = .ok (.aload_n 0, 1) := by decide +kernel
theorem dX11_act_95 : decode cX11_act 95 = .ok (.getfield 33, 3) := by decide +kernel
theorem dX11_act_98 : decode cX11_act 98 = .ok (.imul, 1) := by decide +kernel
theorem dX11_act_99 : decode cX11_act 99 = .ok (.iload_n 1, 1) := by decide +kernel
theorem dX11_act_100 : decode cX11_act 100 = .ok (.iadd, 1) := by decide +kernel
theorem dX11_act_101 : decode cX11_act 101 = .ok (.aload_n 0, 1) := by decide +kernel
theorem dX11_act_102 : decode cX11_act 102 = .ok (.getfield 7, 3) := by decide +kernel
theorem dX11_act_105 : decode cX11_act 105 = .ok (.iload_n 1, 1) := by decide +kernel
theorem dX11_act_106 : decode cX11_act 106 = .ok (.iaload, 1) := by decide +kernel
theorem dX11_act_107 : decode cX11_act 107 = .ok (.iastore, 1) := by decide +kernel
theorem dX11_act_108 : decode cX11_act 108 = .ok (.iinc 1 1, 3) := by decide +kernel
theorem dX11_act_111 : decode cX11_act 111 = .ok (.goto (-31), 3) := by decide +kernel
theorem dX11_act_114 : decode cX11_act 114 = .ok (.aload_n 0, 1) := by decide +kernel
theorem dX11_act_115 : decode cX11_act 115 = .ok (.getfield 19, 3) := by decide +kernel
theorem dX11_act_118 : decode cX11_act 118 = .ok (.aload_n 0, 1) := by decide +kernel
theorem dX11_act_119 : decode cX11_act 119 = .ok (.getfield 33, 3) := by decide +kernel
theorem dX11_act_122 : decode cX11_act 122 = .ok (.aload_n 0, 1) := by decide +kernel
theorem dX11_act_123 : decode cX11_act 123 = .ok (.getfield 36, 3) := by decide +kernel
theorem dX11_act_126 : decode cX11_act 126 = .ok (.fastore, 1) := by decide +kernel
theorem dX11_act_127 : decode cX11_act 127 = .ok (.aload_n 0, 1) := by decide +kernel
theorem dX11_act_128 : decode cX11_act 128 = .ok (.dup, 1) := by decide +kernel
theorem dX11_act_129 : decode cX11_act 129 = .ok (.getfield 33, 3) := by decide +kernel
theorem dX11_act_132 : decode cX11_act 132 = .ok (.iconst 1, 1) := by decide +kernel
theorem dX11_act_133 : decode cX11_act 133 = .ok (.iadd, 1) := by decide +kernel
theorem dX11_act_134 : decode cX11_act 134 = .ok (.putfield 33, 3) := by decide +kernel
theorem dX11_act_137 : decode cX11_act 137 = .ok (.return_, 1) := by decide +kernel
theorem dX11_hold_0 : decode cX11_hold 0 = .ok (.iconst 0, 1) := by decide +kernel
theorem dX11_hold_1 : decode cX11_hold 1 = .ok (.istore_n 1, 1) := by decide +kernel
theorem dX11_hold_2 : decode cX11_hold 2 = .ok (.iload_n 1, 1) := by decide +kernel
theorem dX11_hold_3 : decode cX11_hold 3 = .ok (.sipush 408, 3) := by decide +kernel
theorem dX11_hold_6 : decode cX11_hold 6 = .ok (.if_icmp .ge 21, 3) := by decide +kernel
theorem dX11_hold_9 : decode cX11_hold 9 = .ok (.aload_n 0, 1) := by decide +kernel
theorem dX11_hold_10 : decode cX11_hold 10 = .ok (.getfield 13, 3) := by decide +kernel
theorem dX11_hold_13 : decode cX11_hold 13 = .ok (.iload_n 1, 1) := by decide +kernel
theorem dX11_hold_14 : decode cX11_hold 14 = .ok (.aload_n 0, 1) := by decide +kernel
theorem dX11_hold_15 : decode cX11_hold 15 = .ok (.getfield 7, 3) := by decide +kernel
theorem dX11_hold_18 : decode cX11_hold 18 = .ok (.iload_n 1, 1) := by decide +kernel
theorem dX11_hold_19 : decode cX11_hold 19 = .ok (.iaload, 1) := by decide +kernel
theorem dX11_hold_20 : decode cX11_hold 20 = .ok (.iastore, 1) := by decide +kernel
theorem dX11_hold_21 : decode cX11_hold 21 = .ok (.iinc 1 1, 3) := by decide +kernel
theorem dX11_hold_24 : decode cX11_hold 24 = .ok (.goto (-22), 3) := by decide +kernel
theorem dX11_hold_27 : decode cX11_hold 27 = .ok (.return_, 1) := by decide +kernel
theorem dX11_release_0 : decode cX11_release 0 = .ok (.iconst 0, 1) := by decide +kernel
theorem dX11_release_1 : decode cX11_release 1 = .ok (.istore_n 1, 1) := by decide +kernel
theorem dX11_release_2 : decode cX11_release 2 = .ok (.iload_n 1, 1) := by decide +kernel
theorem dX11_release_3 : decode cX11_release 3 = .ok (.sipush 408, 3) := by decide +kernel
theorem dX11_release_6 : decode cX11_release 6 = .ok (.if_icmp .ge 21, 3) := by decide +kernel
theorem dX11_release_9 : decode cX11_release 9 = .ok (.aload_n 0, 1) := by decide +kernel
theorem dX11_release_10 : decode cX11_release 10 = .ok (.getfield 7, 3) := by decide +kernel
theorem dX11_release_13 : decode cX11_release 13 = .ok (.iload_n 1, 1) := by decide +kernel
theorem dX11_release_14 : decode cX11_release 14 = .ok (.aload_n 0, 1) := by decide +kernel
theorem dX11_release_15 : decode cX11_release 15 = .ok (.getfield 13, 3) := by decide +kernel
theorem dX11_release_18 : decode cX11_release 18 = .ok (.iload_n 1, 1) := by decide +kernel
theorem dX11_release_19 : decode cX11_release 19 = .ok (.iaload, 1) := by decide +kernel
theorem dX11_release_20 : decode cX11_release 20 = .ok (.iastore, 1) := by decide +kernel
theorem dX11_release_21 : decode cX11_release 21 = .ok (.iinc 1 1, 3) := by decide +kernel
theorem dX11_release_24 : decode cX11_release 24 = .ok (.goto (-22), 3) := by decide +kernel
theorem dX11_release_27 : decode cX11_release 27 = .ok (.return_, 1) := by decide +kernel
theorem dX11_exchange_0 : decode cX11_exchange 0 = .ok (.iconst 0, 1) := by decide +kernel
theorem dX11_exchange_1 : decode cX11_exchange 1 = .ok (.istore_n 1, 1) := by decide +kernel
theorem dX11_exchange_2 : decode cX11_exchange 2 = .ok (.iload_n 1, 1) := by decide +kernel
theorem dX11_exchange_3 : decode cX11_exchange 3 = .ok (.sipush 408, 3) := by decide +kernel
theorem dX11_exchange_6 : decode cX11_exchange 6 = .ok (.if_icmp .ge 35, 3) := by decide +kernel
theorem dX11_exchange_9 : decode cX11_exchange 9 = .ok (.aload_n 0, 1) := by decide +kernel
theorem dX11_exchange_10 : decode cX11_exchange 10 = .ok (.getfield 7, 3) := by decide +kernel
theorem dX11_exchange_13 : decode cX11_exchange 13 = .ok (.iload_n 1, 1) := by decide +kernel
theorem dX11_exchange_14 : decode cX11_exchange 14 = .ok (.iaload, 1) := by decide +kernel
theorem dX11_exchange_15 : decode cX11_exchange 15 = .ok (.istore_n 2, 1) := by decide +kernel
theorem dX11_exchange_16 : decode cX11_exchange 16 = .ok (.aload_n 0, 1) := by decide +kernel
theorem dX11_exchange_17 : decode cX11_exchange 17 = .ok (.getfield 7, 3) := by decide +kernel
theorem dX11_exchange_20 : decode cX11_exchange 20 = .ok (.iload_n 1, 1) := by decide +kernel
theorem dX11_exchange_21 : decode cX11_exchange 21 = .ok (.aload_n 0, 1) := by decide +kernel
theorem dX11_exchange_22 : decode cX11_exchange 22 = .ok (.getfield 13, 3) := by decide +kernel
theorem dX11_exchange_25 : decode cX11_exchange 25 = .ok (.iload_n 1, 1) := by decide +kernel
theorem dX11_exchange_26 : decode cX11_exchange 26 = .ok (.iaload, 1) := by decide +kernel
theorem dX11_exchange_27 : decode cX11_exchange 27 = .ok (.iastore, 1) := by decide +kernel
theorem dX11_exchange_28 : decode cX11_exchange 28 = .ok (.aload_n 0, 1) := by decide +kernel
theorem dX11_exchange_29 : decode cX11_exchange 29 = .ok (.getfield 13, 3) := by decide +kernel
theorem dX11_exchange_32 : decode cX11_exchange 32 = .ok (.iload_n 1, 1) := by decide +kernel
theorem dX11_exchange_33 : decode cX11_exchange 33 = .ok (.iload_n 2, 1) := by decide +kernel
theorem dX11_exchange_34 : decode cX11_exchange 34 = .ok (.iastore, 1) := by decide +kernel
theorem dX11_exchange_35 : decode cX11_exchange 35 = .ok (.iinc 1 1, 3) := by decide +kernel
theorem dX11_exchange_38 : decode cX11_exchange 38 = .ok (.goto (-36), 3) := by decide +kernel
theorem dX11_exchange_41 : decode cX11_exchange 41 = .ok (.return_, 1) := by decide +kernel
set_option maxRecDepth 20000 in
theorem ggX11_isChannel_X11_in : GoodIn wsX11_isChannel wsX11_in := goodIn_r _ [4] (by decide +kernel) (by decide +kernel)
set_option maxRecDepth 20000 in
theorem gX11_isChannel_X11_in : GoodIn wsX11_isChannel (va_wsS RX11 40 yX11_in wsX11_in) := goodIn_app (goodIn_of _ (by decide +kernel)) ggX11_isChannel_X11_in
theorem dX11_isChannel_0 : decode cX11_isChannel 0 = .ok (.iload_n 0, 1) := by decide +kernel
theorem dX11_isChannel_1 : decode cX11_isChannel 1 = .ok (.iconst 0, 1) := by decide +kernel
theorem dX11_isChannel_2 : decode cX11_isChannel 2 = .ok (.bipush 7, 2) := by decide +kernel
theorem dX11_isChannel_4 : decode cX11_isChannel 4 = .ok (.invokestatic 40, 3) := by decide +kernel
theorem dX11_isChannel_7 : decode cX11_isChannel 7 = .ok (.ireturn, 1) := by decide +kernel
theorem dX11_of_0 : decode cX11_of 0 = .ok (.aload_n 0, 1) := by decide +kernel
theorem dX11_of_1 : decode cX11_of 1 = .ok (.getfield 7, 3) := by decide +kernel
theorem dX11_of_4 : decode cX11_of 4 = .ok (.iconst 5, 1) := by decide +kernel
theorem dX11_of_5 : decode cX11_of 5 = .ok (.iload_n 1, 1) := by decide +kernel
theorem dX11_of_6 : decode cX11_of 6 = .ok (.imul, 1) := by decide +kernel
theorem dX11_of_7 : decode cX11_of 7 = .ok (.iload_n 2, 1) := by decide +kernel
theorem dX11_of_8 : decode cX11_of 8 = .ok (.iadd, 1) := by decide +kernel
theorem dX11_of_9 : decode cX11_of 9 = .ok (.iaload, 1) := by decide +kernel
theorem dX11_of_10 : decode cX11_of 10 = .ok (.ireturn, 1) := by decide +kernel
set_option maxRecDepth 20000 in
theorem ggX11_isEntry_X11_in : GoodIn wsX11_isEntry wsX11_in := goodIn_r _ [5] (by decide +kernel) (by decide +kernel)
set_option maxRecDepth 20000 in
theorem gX11_isEntry_X11_in : GoodIn wsX11_isEntry (va_wsS RX11 40 yX11_in wsX11_in) := goodIn_app (goodIn_of _ (by decide +kernel)) ggX11_isEntry_X11_in
theorem dX11_isEntry_0 : decode cX11_isEntry 0 = .ok (.iload_n 1, 1) := by decide +kernel
theorem dX11_isEntry_1 : decode cX11_isEntry 1 = .ok (.iconst 0, 1) := by decide +kernel
theorem dX11_isEntry_2 : decode cX11_isEntry 2 = .ok (.aload_n 0, 1) := by decide +kernel
theorem dX11_isEntry_3 : decode cX11_isEntry 3 = .ok (.getfield 7, 3) := by decide +kernel
theorem dX11_isEntry_6 : decode cX11_isEntry 6 = .ok (.bipush 43, 2) := by decide +kernel
theorem dX11_isEntry_8 : decode cX11_isEntry 8 = .ok (.iaload, 1) := by decide +kernel
theorem dX11_isEntry_9 : decode cX11_isEntry 9 = .ok (.iconst 1, 1) := by decide +kernel
theorem dX11_isEntry_10 : decode cX11_isEntry 10 = .ok (.isub, 1) := by decide +kernel
theorem dX11_isEntry_11 : decode cX11_isEntry 11 = .ok (.invokestatic 40, 3) := by decide +kernel
theorem dX11_isEntry_14 : decode cX11_isEntry 14 = .ok (.ireturn, 1) := by decide +kernel
theorem dX11_placeOf_0 : decode cX11_placeOf 0 = .ok (.aload_n 0, 1) := by decide +kernel
theorem dX11_placeOf_1 : decode cX11_placeOf 1 = .ok (.getfield 7, 3) := by decide +kernel
theorem dX11_placeOf_4 : decode cX11_placeOf 4 = .ok (.bipush 44, 2) := by decide +kernel
theorem dX11_placeOf_6 : decode cX11_placeOf 6 = .ok (.iconst 2, 1) := by decide +kernel
theorem dX11_placeOf_7 : decode cX11_placeOf 7 = .ok (.iload_n 1, 1) := by decide +kernel
theorem dX11_placeOf_8 : decode cX11_placeOf 8 = .ok (.imul, 1) := by decide +kernel
theorem dX11_placeOf_9 : decode cX11_placeOf 9 = .ok (.iadd, 1) := by decide +kernel
theorem dX11_placeOf_10 : decode cX11_placeOf 10 = .ok (.iaload, 1) := by decide +kernel
theorem dX11_placeOf_11 : decode cX11_placeOf 11 = .ok (.ireturn, 1) := by decide +kernel
theorem dX11_settleOf_0 : decode cX11_settleOf 0 = .ok (.aload_n 0, 1) := by decide +kernel
theorem dX11_settleOf_1 : decode cX11_settleOf 1 = .ok (.getfield 7, 3) := by decide +kernel
theorem dX11_settleOf_4 : decode cX11_settleOf 4 = .ok (.bipush 44, 2) := by decide +kernel
theorem dX11_settleOf_6 : decode cX11_settleOf 6 = .ok (.iconst 2, 1) := by decide +kernel
theorem dX11_settleOf_7 : decode cX11_settleOf 7 = .ok (.iload_n 1, 1) := by decide +kernel
theorem dX11_settleOf_8 : decode cX11_settleOf 8 = .ok (.imul, 1) := by decide +kernel
theorem dX11_settleOf_9 : decode cX11_settleOf 9 = .ok (.iadd, 1) := by decide +kernel
theorem dX11_settleOf_10 : decode cX11_settleOf 10 = .ok (.iconst 1, 1) := by decide +kernel
theorem dX11_settleOf_11 : decode cX11_settleOf 11 = .ok (.iadd, 1) := by decide +kernel
theorem dX11_settleOf_12 : decode cX11_settleOf 12 = .ok (.iaload, 1) := by decide +kernel
theorem dX11_settleOf_13 : decode cX11_settleOf 13 = .ok (.ireturn, 1) := by decide +kernel
set_option maxRecDepth 20000 in
theorem ggX11_valueAt_X11_of : GoodIn wsX11_valueAt wsX11_of := goodIn_r _ [5, 6, 10, 11, 12, 13, 14, 15, 16, 17, 18, 19, 20, 21, 22, 23, 24, 25, 26] (by decide +kernel) (by decide +kernel)
set_option maxRecDepth 20000 in
theorem gX11_valueAt_X11_of : GoodIn wsX11_valueAt (wsV RX11 44 RX11 yX11_of wsX11_of) := goodIn_app (goodIn_of _ (by decide +kernel)) ggX11_valueAt_X11_of
set_option maxRecDepth 20000 in
theorem ggX11_valueAt_X11_down : GoodIn wsX11_valueAt wsX11_down := goodIn_r _ [9] (by decide +kernel) (by decide +kernel)
set_option maxRecDepth 20000 in
theorem gX11_valueAt_X11_down : GoodIn wsX11_valueAt (va_wsS RX11 48 yX11_down wsX11_down) := goodIn_app (goodIn_of _ (by decide +kernel)) ggX11_valueAt_X11_down
theorem dX11_valueAt_0 : decode cX11_valueAt 0 = .ok (.aload_n 0, 1) := by decide +kernel
theorem dX11_valueAt_1 : decode cX11_valueAt 1 = .ok (.iload_n 1, 1) := by decide +kernel
theorem dX11_valueAt_2 : decode cX11_valueAt 2 = .ok (.iconst 1, 1) := by decide +kernel
theorem dX11_valueAt_3 : decode cX11_valueAt 3 = .ok (.invokevirtual 44, 3) := by decide +kernel
theorem dX11_valueAt_6 : decode cX11_valueAt 6 = .ok (.istore_n 3, 1) := by decide +kernel
theorem dX11_valueAt_7 : decode cX11_valueAt 7 = .ok (.aload_n 0, 1) := by decide +kernel
theorem dX11_valueAt_8 : decode cX11_valueAt 8 = .ok (.iload_n 1, 1) := by decide +kernel
theorem dX11_valueAt_9 : decode cX11_valueAt 9 = .ok (.iconst 0, 1) := by decide +kernel
theorem dX11_valueAt_10 : decode cX11_valueAt 10 = .ok (.invokevirtual 44, 3) := by decide +kernel
theorem dX11_valueAt_13 : decode cX11_valueAt 13 = .ok (.iconst 1, 1) := by decide +kernel
theorem dX11_valueAt_14 : decode cX11_valueAt 14 = .ok (.if_icmp .ne 22, 3) := by decide +kernel
theorem dX11_valueAt_17 : decode cX11_valueAt 17 = .ok (.iload_n 3, 1) := by decide +kernel
theorem dX11_valueAt_18 : decode cX11_valueAt 18 = .ok (.aload_n 0, 1) := by decide +kernel
theorem dX11_valueAt_19 : decode cX11_valueAt 19 = .ok (.iload_n 1, 1) := by decide +kernel
theorem dX11_valueAt_20 : decode cX11_valueAt 20 = .ok (.iconst 2, 1) := by decide +kernel
theorem dX11_valueAt_21 : decode cX11_valueAt 21 = .ok (.invokevirtual 44, 3) := by decide +kernel
theorem dX11_valueAt_24 : decode cX11_valueAt 24 = .ok (.iload_n 2, 1) := by decide +kernel
theorem dX11_valueAt_25 : decode cX11_valueAt 25 = .ok (.imul, 1) := by decide +kernel
theorem dX11_valueAt_26 : decode cX11_valueAt 26 = .ok (.bipush 16, 2) := by decide +kernel
theorem dX11_valueAt_28 : decode cX11_valueAt 28 = .ok (.invokestatic 48, 3) := by decide +kernel
theorem dX11_valueAt_31 : decode cX11_valueAt 31 = .ok (.iadd, 1) := by decide +kernel
theorem dX11_valueAt_32 : decode cX11_valueAt 32 = .ok (.istore_n 3, 1) := by decide +kernel
theorem dX11_valueAt_33 : decode cX11_valueAt 33 = .ok (.goto 39, 3) := by decide +kernel
theorem dX11_valueAt_36 : decode cX11_valueAt 36 = .ok (.aload_n 0, 1) := by decide +kernel
theorem dX11_valueAt_37 : decode cX11_valueAt 37 = .ok (.iload_n 1, 1) := by decide +kernel
theorem dX11_valueAt_38 : decode cX11_valueAt 38 = .ok (.iconst 0, 1) := by decide +kernel
theorem dX11_valueAt_39 : decode cX11_valueAt 39 = .ok (.invokevirtual 44, 3) := by decide +kernel
theorem dX11_valueAt_42 : decode cX11_valueAt 42 = .ok (.iconst 2, 1) := by decide +kernel
theorem dX11_valueAt_43 : decode cX11_valueAt 43 = .ok (.if_icmp .ne 29, 3) := by decide +kernel
theorem dX11_valueAt_46 : decode cX11_valueAt 46 = .ok (.iload_n 2, 1) := by decide +kernel
theorem dX11_valueAt_47 : decode cX11_valueAt 47 = .ok (.aload_n 0, 1) := by decide +kernel
theorem dX11_valueAt_48 : decode cX11_valueAt 48 = .ok (.iload_n 1, 1) := by decide +kernel
theorem dX11_valueAt_49 : decode cX11_valueAt 49 = .ok (.iconst 3, 1) := by decide +kernel
theorem dX11_valueAt_50 : decode cX11_valueAt 50 = .ok (.invokevirtual 44, 3) := by decide +kernel
theorem dX11_valueAt_53 : decode cX11_valueAt 53 = .ok (.irem, 1) := by decide +kernel
theorem dX11_valueAt_54 : decode cX11_valueAt 54 = .ok (.aload_n 0, 1) := by decide +kernel
theorem dX11_valueAt_55 : decode cX11_valueAt 55 = .ok (.iload_n 1, 1) := by decide +kernel
theorem dX11_valueAt_56 : decode cX11_valueAt 56 = .ok (.iconst 3, 1) := by decide +kernel
theorem dX11_valueAt_57 : decode cX11_valueAt 57 = .ok (.invokevirtual 44, 3) := by decide +kernel
theorem dX11_valueAt_60 : decode cX11_valueAt 60 = .ok (.iconst 2, 1) := by decide +kernel
theorem dX11_valueAt_61 : decode cX11_valueAt 61 = .ok (.idiv, 1) := by decide +kernel
theorem dX11_valueAt_62 : decode cX11_valueAt 62 = .ok (.if_icmp .lt 10, 3) := by decide +kernel
theorem dX11_valueAt_65 : decode cX11_valueAt 65 = .ok (.aload_n 0, 1) := by decide +kernel
theorem dX11_valueAt_66 : decode cX11_valueAt 66 = .ok (.iload_n 1, 1) := by decide +kernel
theorem dX11_valueAt_67 : decode cX11_valueAt 67 = .ok (.iconst 2, 1) := by decide +kernel
theorem dX11_valueAt_68 : decode cX11_valueAt 68 = .ok (.invokevirtual 44, 3) := by decide +kernel
theorem dX11_valueAt_71 : decode cX11_valueAt 71 = .ok (.istore_n 3, 1) := by decide +kernel
theorem dX11_valueAt_72 : decode cX11_valueAt 72 = .ok (.iload_n 3, 1) := by decide +kernel
theorem dX11_valueAt_73 : decode cX11_valueAt 73 = .ok (.ifCond .ge 7, 3) := by decide +kernel
theorem dX11_valueAt_76 : decode cX11_valueAt 76 = .ok (.iconst 0, 1) := by decide +kernel
theorem dX11_valueAt_77 : decode cX11_valueAt 77 = .ok (.goto 17, 3) := by decide +kernel
theorem dX11_valueAt_80 : decode cX11_valueAt 80 = .ok (.iload_n 3, 1) := by decide +kernel
theorem dX11_valueAt_81 : decode cX11_valueAt 81 = .ok (.sipush 4095, 3) := by decide +kernel
theorem dX11_valueAt_84 : decode cX11_valueAt 84 = .ok (.if_icmp .le 9, 3) := by decide +kernel
theorem dX11_valueAt_87 : decode cX11_valueAt 87 = .ok (.sipush 4095, 3) := by decide +kernel
theorem dX11_valueAt_90 : decode cX11_valueAt 90 = .ok (.goto 4, 3) := by decide +kernel
theorem dX11_valueAt_93 : decode cX11_valueAt 93 = .ok (.iload_n 3, 1) := by decide +kernel
theorem dX11_valueAt_94 : decode cX11_valueAt 94 = .ok (.ireturn, 1) := by decide +kernel
set_option maxRecDepth 20000 in
theorem ggX11_valueOf_X11_valueAt : GoodIn wsX11_valueOf wsX11_valueAt := goodIn_r _ [6, 7, 8, 9, 5, 10, 1, 11, 12, 13, 14, 15, 16, 17, 18, 19, 20, 21, 22, 23, 24, 25, 26, 27, 28, 29, 30] (by decide +kernel) (by decide +kernel)
set_option maxRecDepth 20000 in
theorem gX11_valueOf_X11_valueAt : GoodIn wsX11_valueOf (wsV RX11 51 RX11 yX11_valueAt wsX11_valueAt) := goodIn_app (goodIn_of _ (by decide +kernel)) ggX11_valueOf_X11_valueAt
theorem dX11_valueOf_0 : decode cX11_valueOf 0 = .ok (.iload_n 1, 1) := by decide +kernel
theorem dX11_valueOf_1 : decode cX11_valueOf 1 = .ok (.bipush 8, 2) := by decide +kernel
theorem dX11_valueOf_3 : decode cX11_valueOf 3 = .ok (.if_icmp .ne 7, 3) := by decide +kernel
theorem dX11_valueOf_6 : decode cX11_valueOf 6 = .ok (.iconst 0, 1) := by decide +kernel
theorem dX11_valueOf_7 : decode cX11_valueOf 7 = .ok (.goto 25, 3) := by decide +kernel
theorem dX11_valueOf_10 : decode cX11_valueOf 10 = .ok (.iload_n 1, 1) := by decide +kernel
theorem dX11_valueOf_11 : decode cX11_valueOf 11 = .ok (.bipush 9, 2) := by decide +kernel
theorem dX11_valueOf_13 : decode cX11_valueOf 13 = .ok (.if_icmp .ne 13, 3) := by decide +kernel
theorem dX11_valueOf_16 : decode cX11_valueOf 16 = .ok (.aload_n 0, 1) := by decide +kernel
theorem dX11_valueOf_17 : decode cX11_valueOf 17 = .ok (.getfield 7, 3) := by decide +kernel
theorem dX11_valueOf_20 : decode cX11_valueOf 20 = .ok (.bipush 40, 2) := by decide +kernel
theorem dX11_valueOf_22 : decode cX11_valueOf 22 = .ok (.iaload, 1) := by decide +kernel
theorem dX11_valueOf_23 : decode cX11_valueOf 23 = .ok (.goto 9, 3) := by decide +kernel
theorem dX11_valueOf_26 : decode cX11_valueOf 26 = .ok (.aload_n 0, 1) := by decide +kernel
theorem dX11_valueOf_27 : decode cX11_valueOf 27 = .ok (.iload_n 1, 1) := by decide +kernel
theorem dX11_valueOf_28 : decode cX11_valueOf 28 = .ok (.iload_n 2, 1) := by decide +kernel
theorem dX11_valueOf_29 : decode cX11_valueOf 29 = .ok (.invokevirtual 51, 3) := by decide +kernel
theorem dX11_valueOf_32 : decode cX11_valueOf 32 = .ok (.ireturn, 1) := by decide +kernel
set_option maxRecDepth 20000 in
theorem ggX11_slot_X11_valueOf : GoodIn wsX11_slot wsX11_valueOf := goodIn_r _ [5, 6, 7, 8, 9, 4, 10, 11, 12, 13, 14, 15, 16, 17, 18, 19, 20, 21, 22, 23, 24, 25, 26, 27, 28, 29, 30, 31, 32, 33, 34] (by decide +kernel) (by decide +kernel)
set_option maxRecDepth 20000 in
theorem gX11_slot_X11_valueOf : GoodIn wsX11_slot (wsV RX11 54 RX11 yX11_valueOf wsX11_valueOf) := goodIn_app (goodIn_of _ (by decide +kernel)) ggX11_slot_X11_valueOf
set_option maxRecDepth 20000 in
theorem ggX11_slot_X11_of : GoodIn wsX11_slot wsX11_of := goodIn_r _ [14, 6, 18, 19, 20, 21, 22, 23, 24, 25, 26, 27, 28, 29, 30, 31, 32, 33, 34] (by decide +kernel) (by decide +kernel)
set_option maxRecDepth 20000 in
theorem gX11_slot_X11_of : GoodIn wsX11_slot (wsV RX11 44 RX11 yX11_of wsX11_of) := goodIn_app (goodIn_of _ (by decide +kernel)) ggX11_slot_X11_of
theorem dX11_slot_0 : decode cX11_slot 0 = .ok (.aload_n 0, 1) := by decide +kernel
theorem dX11_slot_1 : decode cX11_slot 1 = .ok (.iload_n 2, 1) := by decide +kernel
theorem dX11_slot_2 : decode cX11_slot 2 = .ok (.iload_n 3, 1) := by decide +kernel
theorem dX11_slot_3 : decode cX11_slot 3 = .ok (.invokevirtual 54, 3) := by decide +kernel
theorem dX11_slot_6 : decode cX11_slot 6 = .ok (.i2f, 1) := by decide +kernel
theorem dX11_slot_7 : decode cX11_slot 7 = .ok (.fstore 4, 2) := by decide +kernel
theorem dX11_slot_9 : decode cX11_slot 9 = .ok (.iload_n 2, 1) := by decide +kernel
theorem dX11_slot_10 : decode cX11_slot 10 = .ok (.bipush 8, 2) := by decide +kernel
theorem dX11_slot_12 : decode cX11_slot 12 = .ok (.if_icmp .ge 12, 3) := by decide +kernel
theorem dX11_slot_15 : decode cX11_slot 15 = .ok (.aload_n 0, 1) := by decide +kernel
theorem dX11_slot_16 : decode cX11_slot 16 = .ok (.iload_n 2, 1) := by decide +kernel
theorem dX11_slot_17 : decode cX11_slot 17 = .ok (.iconst 4, 1) := by decide +kernel
theorem dX11_slot_18 : decode cX11_slot 18 = .ok (.invokevirtual 44, 3) := by decide +kernel
theorem dX11_slot_21 : decode cX11_slot 21 = .ok (.ifCond .ne 6, 3) := by decide +kernel
theorem dX11_slot_24 : decode cX11_slot 24 = .ok (.fload 4, 2) := by decide +kernel
theorem dX11_slot_26 : decode cX11_slot 26 = .ok (.freturn, 1) := by decide +kernel
theorem dX11_slot_27 : decode cX11_slot 27 = .ok (.fload_n 1, 1) := by decide +kernel
theorem dX11_slot_28 : decode cX11_slot 28 = .ok (.fload 4, 2) := by decide +kernel
theorem dX11_slot_30 : decode cX11_slot 30 = .ok (.fload_n 1, 1) := by decide +kernel
theorem dX11_slot_31 : decode cX11_slot 31 = .ok (.fsub, 1) := by decide +kernel
theorem dX11_slot_32 : decode cX11_slot 32 = .ok (.iconst 1, 1) := by decide +kernel
theorem dX11_slot_33 : decode cX11_slot 33 = .ok (.aload_n 0, 1) := by decide +kernel
theorem dX11_slot_34 : decode cX11_slot 34 = .ok (.iload_n 2, 1) := by decide +kernel
theorem dX11_slot_35 : decode cX11_slot 35 = .ok (.iconst 4, 1) := by decide +kernel
theorem dX11_slot_36 : decode cX11_slot 36 = .ok (.invokevirtual 44, 3) := by decide +kernel
theorem dX11_slot_39 : decode cX11_slot 39 = .ok (.iadd, 1) := by decide +kernel
theorem dX11_slot_40 : decode cX11_slot 40 = .ok (.i2f, 1) := by decide +kernel
theorem dX11_slot_41 : decode cX11_slot 41 = .ok (.fdiv, 1) := by decide +kernel
theorem dX11_slot_42 : decode cX11_slot 42 = .ok (.fadd, 1) := by decide +kernel
theorem dX11_slot_43 : decode cX11_slot 43 = .ok (.freturn, 1) := by decide +kernel
theorem dX11_readingBy_0 : decode cX11_readingBy 0 = .ok (.fload_n 0, 1) := by decide +kernel
theorem dX11_readingBy_1 : decode cX11_readingBy 1 = .ok (.iload_n 1, 1) := by decide +kernel
theorem dX11_readingBy_2 : decode cX11_readingBy 2 = .ok (.i2f, 1) := by decide +kernel
theorem dX11_readingBy_3 : decode cX11_readingBy 3 = .ok (.ldc 57, 2) := by decide +kernel
theorem dX11_readingBy_5 : decode cX11_readingBy 5 = .ok (.fdiv, 1) := by decide +kernel
theorem dX11_readingBy_6 : decode cX11_readingBy 6 = .ok (.fmul, 1) := by decide +kernel
theorem dX11_readingBy_7 : decode cX11_readingBy 7 = .ok (.iload_n 2, 1) := by decide +kernel
theorem dX11_readingBy_8 : decode cX11_readingBy 8 = .ok (.i2f, 1) := by decide +kernel
theorem dX11_readingBy_9 : decode cX11_readingBy 9 = .ok (.fadd, 1) := by decide +kernel
theorem dX11_readingBy_10 : decode cX11_readingBy 10 = .ok (.ldc 58, 2) := by decide +kernel
theorem dX11_readingBy_12 : decode cX11_readingBy 12 = .ok (.fadd, 1) := by decide +kernel
theorem dX11_readingBy_13 : decode cX11_readingBy 13 = .ok (.fstore_n 3, 1) := by decide +kernel
theorem dX11_readingBy_14 : decode cX11_readingBy 14 = .ok (.fload_n 3, 1) := by decide +kernel
theorem dX11_readingBy_15 : decode cX11_readingBy 15 = .ok (.fconst 0, 1) := by decide +kernel
theorem dX11_readingBy_16 : decode cX11_readingBy 16 = .ok (.fcmp .g, 1) := by decide +kernel
theorem dX11_readingBy_17 : decode cX11_readingBy 17 = .ok (.ifCond .ge 5, 3) := by decide +kernel
theorem dX11_readingBy_20 : decode cX11_readingBy 20 = .ok (.iconst 0, 1) := by decide +kernel
theorem dX11_readingBy_21 : decode cX11_readingBy 21 = .ok (.ireturn, 1) := by decide +kernel
theorem dX11_readingBy_22 : decode cX11_readingBy 22 = .ok (.fload_n 3, 1) := by decide +kernel
theorem dX11_readingBy_23 : decode cX11_readingBy 23 = .ok (.f2i, 1) := by decide +kernel
theorem dX11_readingBy_24 : decode cX11_readingBy 24 = .ok (.istore 4, 2) := by decide +kernel
theorem dX11_readingBy_26 : decode cX11_readingBy 26 = .ok (.iload 4, 2) := by decide +kernel
theorem dX11_readingBy_28 : decode cX11_readingBy 28 = .ok (.sipush 4095, 3) := by decide +kernel
theorem dX11_readingBy_31 : decode cX11_readingBy 31 = .ok (.if_icmp .le 9, 3) := by decide +kernel
theorem dX11_readingBy_34 : decode cX11_readingBy 34 = .ok (.sipush 4095, 3) := by decide +kernel
theorem dX11_readingBy_37 : decode cX11_readingBy 37 = .ok (.goto 5, 3) := by decide +kernel
theorem dX11_readingBy_40 : decode cX11_readingBy 40 = .ok (.iload 4, 2) := by decide +kernel
theorem dX11_readingBy_42 : decode cX11_readingBy 42 = .ok (.ireturn, 1) := by decide +kernel
set_option maxRecDepth 20000 in
theorem ggX11_reading_X11_readingBy : GoodIn wsX11_reading wsX11_readingBy := goodIn_r _ [5, 6, 7] (by decide +kernel) (by decide +kernel)
set_option maxRecDepth 20000 in
theorem gX11_reading_X11_readingBy : GoodIn wsX11_reading (va_wsS RX11 59 yX11_readingBy wsX11_readingBy) := goodIn_app (goodIn_of _ (by decide +kernel)) ggX11_reading_X11_readingBy
theorem dX11_reading_0 : decode cX11_reading 0 = .ok (.fload_n 1, 1) := by decide +kernel
theorem dX11_reading_1 : decode cX11_reading 1 = .ok (.aload_n 0, 1) := by decide +kernel
theorem dX11_reading_2 : decode cX11_reading 2 = .ok (.getfield 7, 3) := by decide +kernel
theorem dX11_reading_5 : decode cX11_reading 5 = .ok (.bipush 41, 2) := by decide +kernel
theorem dX11_reading_7 : decode cX11_reading 7 = .ok (.iaload, 1) := by decide +kernel
theorem dX11_reading_8 : decode cX11_reading 8 = .ok (.aload_n 0, 1) := by decide +kernel
theorem dX11_reading_9 : decode cX11_reading 9 = .ok (.getfield 7, 3) := by decide +kernel
theorem dX11_reading_12 : decode cX11_reading 12 = .ok (.bipush 42, 2) := by decide +kernel
theorem dX11_reading_14 : decode cX11_reading 14 = .ok (.iaload, 1) := by decide +kernel
theorem dX11_reading_15 : decode cX11_reading 15 = .ok (.invokestatic 59, 3) := by decide +kernel
theorem dX11_reading_18 : decode cX11_reading 18 = .ok (.ireturn, 1) := by decide +kernel
theorem dX11_begin_0 : decode cX11_begin 0 = .ok (.aload_n 0, 1) := by decide +kernel
theorem dX11_begin_1 : decode cX11_begin 1 = .ok (.aload_n 0, 1) := by decide +kernel
theorem dX11_begin_2 : decode cX11_begin 2 = .ok (.getfield 36, 3) := by decide +kernel
theorem dX11_begin_5 : decode cX11_begin 5 = .ok (.putfield 63, 3) := by decide +kernel
theorem dX11_begin_8 : decode cX11_begin 8 = .ok (.aload_n 0, 1) := by decide +kernel
theorem dX11_begin_9 : decode cX11_begin 9 = .ok (.aload_n 0, 1) := by decide +kernel
theorem dX11_begin_10 : decode cX11_begin 10 = .ok (.getfield 7, 3) := by decide +kernel
theorem dX11_begin_13 : decode cX11_begin 13 = .ok (.bipush 76, 2) := by decide +kernel
theorem dX11_begin_15 : decode cX11_begin 15 = .ok (.iaload, 1) := by decide +kernel
theorem dX11_begin_16 : decode cX11_begin 16 = .ok (.putfield 66, 3) := by decide +kernel
theorem dX11_begin_19 : decode cX11_begin 19 = .ok (.return_, 1) := by decide +kernel
set_option maxRecDepth 20000 in
theorem ggX11_carryOut_X11_slot : GoodIn wsX11_carryOut wsX11_slot := goodIn_r _ [10, 11, 12, 13, 9, 14, 15, 16, 17, 18, 19, 20, 21, 22, 23, 24, 25, 26, 36, 37, 38, 39, 40, 41, 42, 43, 44, 45, 46, 47, 48, 49, 50, 51, 52] (by decide +kernel) (by decide +kernel)
set_option maxRecDepth 20000 in
theorem gX11_carryOut_X11_slot : GoodIn wsX11_carryOut (wsV RX11 69 RX11 yX11_slot wsX11_slot) := goodIn_app (goodIn_of _ (by decide +kernel)) ggX11_carryOut_X11_slot
set_option maxRecDepth 20000 in
theorem ggX11_carryOut_X11_reading : GoodIn wsX11_carryOut wsX11_reading := goodIn_r _ [30, 15, 31, 32, 9, 33, 34, 35, 36, 37, 38, 39, 40, 41, 42, 43, 44, 45, 46, 47, 48, 49, 50, 51, 52] (by decide +kernel) (by decide +kernel)
set_option maxRecDepth 20000 in
theorem gX11_carryOut_X11_reading : GoodIn wsX11_carryOut (wsV RX11 73 RX11 yX11_reading wsX11_reading) := goodIn_app (goodIn_of _ (by decide +kernel)) ggX11_carryOut_X11_reading
set_option maxRecDepth 20000 in
theorem ggX11_carryOut_X11_valueOf : GoodIn wsX11_carryOut wsX11_valueOf := goodIn_r _ [14, 15, 16, 17, 18, 9, 19, 20, 21, 22, 23, 24, 25, 26, 36, 37, 38, 39, 40, 41, 42, 43, 44, 45, 46, 47, 48, 49, 50, 51, 52] (by decide +kernel) (by decide +kernel)
set_option maxRecDepth 20000 in
theorem gX11_carryOut_X11_valueOf : GoodIn wsX11_carryOut (wsV RX11 54 RX11 yX11_valueOf wsX11_valueOf) := goodIn_app (goodIn_of _ (by decide +kernel)) ggX11_carryOut_X11_valueOf
theorem dX11_carryOut_0 : decode cX11_carryOut 0 = .ok (.fconst 0, 1) := by decide +kernel
theorem dX11_carryOut_1 : decode cX11_carryOut 1 = .ok (.fstore_n 3, 1) := by decide +kernel
theorem dX11_carryOut_2 : decode cX11_carryOut 2 = .ok (.iconst 0, 1) := by decide +kernel
theorem dX11_carryOut_3 : decode cX11_carryOut 3 = .ok (.istore 4, 2) := by decide +kernel
theorem dX11_carryOut_5 : decode cX11_carryOut 5 = .ok (.iload 4, 2) := by decide +kernel
theorem dX11_carryOut_7 : decode cX11_carryOut 7 = .ok (.iload_n 2, 1) := by decide +kernel
theorem dX11_carryOut_8 : decode cX11_carryOut 8 = .ok (.if_icmp .gt 47, 3) := by decide +kernel
theorem dX11_carryOut_11 : decode cX11_carryOut 11 = .ok (.aload_n 0, 1) := by decide +kernel
theorem dX11_carryOut_12 : decode cX11_carryOut 12 = .ok (.aload_n 0, 1) := by decide +kernel
theorem dX11_carryOut_13 : decode cX11_carryOut 13 = .ok (.aload_n 0, 1) := by decide +kernel
theorem dX11_carryOut_14 : decode cX11_carryOut 14 = .ok (.getfield 63, 3) := by decide +kernel
theorem dX11_carryOut_17 : decode cX11_carryOut 17 = .ok (.iload_n 1, 1) := by decide +kernel
theorem dX11_carryOut_18 : decode cX11_carryOut 18 = .ok (.aload_n 0, 1) := by decide +kernel
theorem dX11_carryOut_19 : decode cX11_carryOut 19 = .ok (.getfield 66, 3) := by decide +kernel
theorem dX11_carryOut_22 : decode cX11_carryOut 22 = .ok (.invokevirtual 69, 3) := by decide +kernel
theorem dX11_carryOut_25 : decode cX11_carryOut 25 = .ok (.putfield 63, 3) := by decide +kernel
theorem dX11_carryOut_28 : decode cX11_carryOut 28 = .ok (.aload_n 0, 1) := by decide +kernel
theorem dX11_carryOut_29 : decode cX11_carryOut 29 = .ok (.fload_n 3, 1) := by decide +kernel
theorem dX11_carryOut_30 : decode cX11_carryOut 30 = .ok (.iload_n 1, 1) := by decide +kernel
theorem dX11_carryOut_31 : decode cX11_carryOut 31 = .ok (.aload_n 0, 1) := by decide +kernel
theorem dX11_carryOut_32 : decode cX11_carryOut 32 = .ok (.getfield 66, 3) := by decide +kernel
theorem dX11_carryOut_35 : decode cX11_carryOut 35 = .ok (.invokevirtual 69, 3) := by decide +kernel
theorem dX11_carryOut_38 : decode cX11_carryOut 38 = .ok (.fstore_n 3, 1) := by decide +kernel
theorem dX11_carryOut_39 : decode cX11_carryOut 39 = .ok (.aload_n 0, 1) := by decide +kernel
theorem dX11_carryOut_40 : decode cX11_carryOut 40 = .ok (.dup, 1) := by decide +kernel
theorem dX11_carryOut_41 : decode cX11_carryOut 41 = .ok (.getfield 66, 3) := by decide +kernel
theorem dX11_carryOut_44 : decode cX11_carryOut 44 = .ok (.iconst 1, 1) := by decide +kernel
theorem dX11_carryOut_45 : decode cX11_carryOut 45 = .ok (.iadd, 1) := by decide +kernel
theorem dX11_carryOut_46 : decode cX11_carryOut 46 = .ok (.putfield 66, 3) := by decide +kernel
theorem dX11_carryOut_49 : decode cX11_carryOut 49 = .ok (.iinc 4 1, 3) := by decide +kernel
theorem dX11_carryOut_52 : decode cX11_carryOut 52 = .ok (.goto (-47), 3) := by decide +kernel
theorem dX11_carryOut_55 : decode cX11_carryOut 55 = .ok (.aload_n 0, 1) := by decide +kernel
theorem dX11_carryOut_56 : decode cX11_carryOut 56 = .ok (.aload_n 0, 1) := by decide +kernel
theorem dX11_carryOut_57 : decode cX11_carryOut 57 = .ok (.aload_n 0, 1) := by decide +kernel
theorem dX11_carryOut_58 : decode cX11_carryOut 58 = .ok (.getfield 63, 3) := by decide +kernel
theorem dX11_carryOut_61 : decode cX11_carryOut 61 = .ok (.invokevirtual 73, 3) := by decide +kernel
theorem dX11_carryOut_64 : decode cX11_carryOut 64 = .ok (.putfield 77, 3) := by decide +kernel
theorem dX11_carryOut_67 : decode cX11_carryOut 67 = .ok (.aload_n 0, 1) := by decide +kernel
theorem dX11_carryOut_68 : decode cX11_carryOut 68 = .ok (.aload_n 0, 1) := by decide +kernel
theorem dX11_carryOut_69 : decode cX11_carryOut 69 = .ok (.getfield 77, 3) := by decide +kernel
theorem dX11_carryOut_72 : decode cX11_carryOut 72 = .ok (.aload_n 0, 1) := by decide +kernel
theorem dX11_carryOut_73 : decode cX11_carryOut 73 = .ok (.fload_n 3, 1) := by decide +kernel
theorem dX11_carryOut_74 : decode cX11_carryOut 74 = .ok (.invokevirtual 73, 3) := by decide +kernel
theorem dX11_carryOut_77 : decode cX11_carryOut 77 = .ok (.isub, 1) := by decide +kernel
theorem dX11_carryOut_78 : decode cX11_carryOut 78 = .ok (.putfield 80, 3) := by decide +kernel
theorem dX11_carryOut_81 : decode cX11_carryOut 81 = .ok (.aload_n 0, 1) := by decide +kernel
theorem dX11_carryOut_82 : decode cX11_carryOut 82 = .ok (.aload_n 0, 1) := by decide +kernel
theorem dX11_carryOut_83 : decode cX11_carryOut 83 = .ok (.getfield 77, 3) := by decide +kernel
theorem dX11_carryOut_86 : decode cX11_carryOut 86 = .ok (.aload_n 0, 1) := by decide +kernel
theorem dX11_carryOut_87 : decode cX11_carryOut 87 = .ok (.iload_n 1, 1) := by decide +kernel
theorem dX11_carryOut_88 : decode cX11_carryOut 88 = .ok (.aload_n 0, 1) := by decide +kernel
theorem dX11_carryOut_89 : decode cX11_carryOut 89 = .ok (.getfield 66, 3) := by decide +kernel
theorem dX11_carryOut_92 : decode cX11_carryOut 92 = .ok (.iconst 1, 1) := by decide +kernel
theorem dX11_carryOut_93 : decode cX11_carryOut 93 = .ok (.isub, 1) := by decide +kernel
theorem dX11_carryOut_94 : decode cX11_carryOut 94 = .ok (.invokevirtual 54, 3) := by decide +kernel
theorem dX11_carryOut_97 : decode cX11_carryOut 97 = .ok (.isub, 1) := by decide +kernel
theorem dX11_carryOut_98 : decode cX11_carryOut 98 = .ok (.putfield 83, 3) := by decide +kernel
theorem dX11_carryOut_101 : decode cX11_carryOut 101 = .ok (.return_, 1) := by decide +kernel
set_option maxRecDepth 20000 in
theorem ggX11_carryOutTo_X11_begin : GoodIn wsX11_carryOutTo wsX11_begin := goodIn_r _ [5, 6, 7, 8, 9, 53, 54, 55, 56, 57, 58, 59, 60, 61, 62, 63, 64, 65, 66, 67, 68, 69] (by decide +kernel) (by decide +kernel)
set_option maxRecDepth 20000 in
theorem gX11_carryOutTo_X11_begin : GoodIn wsX11_carryOutTo (wsV RX11 86 RX11 yX11_begin wsX11_begin) := goodIn_app (goodIn_of _ (by decide +kernel)) ggX11_carryOutTo_X11_begin
set_option maxRecDepth 20000 in
theorem ggX11_carryOutTo_X11_placeOf : GoodIn wsX11_carryOutTo wsX11_placeOf := goodIn_r _ [13, 8, 53, 54, 55, 56, 57, 58, 59, 60, 61, 62, 63, 64, 65, 66, 67, 68, 69] (by decide +kernel) (by decide +kernel)
set_option maxRecDepth 20000 in
theorem gX11_carryOutTo_X11_placeOf : GoodIn wsX11_carryOutTo (wsV RX11 89 RX11 yX11_placeOf wsX11_placeOf) := goodIn_app (goodIn_of _ (by decide +kernel)) ggX11_carryOutTo_X11_placeOf
set_option maxRecDepth 20000 in
theorem ggX11_carryOutTo_X11_settleOf : GoodIn wsX11_carryOutTo wsX11_settleOf := goodIn_r _ [17, 8, 53, 54, 55, 56, 57, 58, 59, 60, 61, 62, 63, 64, 65, 66, 67, 68, 69] (by decide +kernel) (by decide +kernel)
set_option maxRecDepth 20000 in
theorem gX11_carryOutTo_X11_settleOf : GoodIn wsX11_carryOutTo (wsV RX11 93 RX11 yX11_settleOf wsX11_settleOf) := goodIn_app (goodIn_of _ (by decide +kernel)) ggX11_carryOutTo_X11_settleOf
set_option maxRecDepth 20000 in
theorem ggX11_carryOutTo_X11_carryOut : GoodIn wsX11_carryOutTo wsX11_carryOut := goodIn_r _ [21, 7, 9, 22, 23, 24, 25, 26, 27, 4, 28, 29, 30, 31, 32, 8, 33, 34, 35, 36, 37, 38, 39, 40, 41, 42, 43, 44, 45, 46, 47, 48, 49, 50, 51, 52, 53, 54, 55, 56, 57, 58, 59, 60, 61, 62, 63, 64, 65, 66, 67, 68, 69] (by decide +kernel) (by decide +kernel)
set_option maxRecDepth 20000 in
theorem gX11_carryOutTo_X11_carryOut : GoodIn wsX11_carryOutTo (wsV RX11 96 RX11 yX11_carryOut wsX11_carryOut) := goodIn_app (goodIn_of _ (by decide +kernel)) ggX11_carryOutTo_X11_carryOut
theorem dX11_carryOutTo_0 : decode cX11_carryOutTo 0 = .ok (.aload_n 0, 1) := by decide +kernel
theorem dX11_carryOutTo_1 : decode cX11_carryOutTo 1 = .ok (.invokevirtual 86, 3) := by decide +kernel
theorem dX11_carryOutTo_4 : decode cX11_carryOutTo 4 = .ok (.iconst 0, 1) := by decide +kernel
theorem dX11_carryOutTo_5 : decode cX11_carryOutTo 5 = .ok (.istore_n 2, 1) := by decide +kernel
theorem dX11_carryOutTo_6 : decode cX11_carryOutTo 6 = .ok (.iload_n 2, 1) := by decide +kernel
theorem dX11_carryOutTo_7 : decode cX11_carryOutTo 7 = .ok (.iload_n 1, 1) := by decide +kernel
theorem dX11_carryOutTo_8 : decode cX11_carryOutTo 8 = .ok (.if_icmp .gt 23, 3) := by decide +kernel
theorem dX11_carryOutTo_11 : decode cX11_carryOutTo 11 = .ok (.aload_n 0, 1) := by decide +kernel
theorem dX11_carryOutTo_12 : decode cX11_carryOutTo 12 = .ok (.aload_n 0, 1) := by decide +kernel
theorem dX11_carryOutTo_13 : decode cX11_carryOutTo 13 = .ok (.iload_n 2, 1) := by decide +kernel
theorem dX11_carryOutTo_14 : decode cX11_carryOutTo 14 = .ok (.invokevirtual 89, 3) := by decide +kernel
theorem dX11_carryOutTo_17 : decode cX11_carryOutTo 17 = .ok (.aload_n 0, 1) := by decide +kernel
theorem dX11_carryOutTo_18 : decode cX11_carryOutTo 18 = .ok (.iload_n 2, 1) := by decide +kernel
theorem dX11_carryOutTo_19 : decode cX11_carryOutTo 19 = .ok (.invokevirtual 93, 3) := by decide +kernel
theorem dX11_carryOutTo_22 : decode cX11_carryOutTo 22 = .ok (.invokevirtual 96, 3) := by decide +kernel
theorem dX11_carryOutTo_25 : decode cX11_carryOutTo 25 = .ok (.iinc 2 1, 3) := by decide +kernel
theorem dX11_carryOutTo_28 : decode cX11_carryOutTo 28 = .ok (.goto (-22), 3) := by decide +kernel
theorem dX11_carryOutTo_31 : decode cX11_carryOutTo 31 = .ok (.return_, 1) := by decide +kernel
set_option maxRecDepth 20000 in
theorem ggX11_carries_X11_begin : GoodIn wsX11_carries wsX11_begin := goodIn_r _ [7, 8, 9, 1, 10, 56, 57, 58, 59, 60, 61, 62, 63, 64, 65, 66, 67, 68, 69, 70, 71, 72] (by decide +kernel) (by decide +kernel)
set_option maxRecDepth 20000 in
theorem gX11_carries_X11_begin : GoodIn wsX11_carries (wsV RX11 86 RX11 yX11_begin wsX11_begin) := goodIn_app (goodIn_of _ (by decide +kernel)) ggX11_carries_X11_begin
set_option maxRecDepth 20000 in
theorem ggX11_carries_X11_placeOf : GoodIn wsX11_carries wsX11_placeOf := goodIn_r _ [14, 1, 56, 57, 58, 59, 60, 61, 62, 63, 64, 65, 66, 67, 68, 69, 70, 71, 72] (by decide +kernel) (by decide +kernel)
set_option maxRecDepth 20000 in
theorem gX11_carries_X11_placeOf : GoodIn wsX11_carries (wsV RX11 89 RX11 yX11_placeOf wsX11_placeOf) := goodIn_app (goodIn_of _ (by decide +kernel)) ggX11_carries_X11_placeOf
set_option maxRecDepth 20000 in
theorem ggX11_carries_X11_settleOf : GoodIn wsX11_carries wsX11_settleOf := goodIn_r _ [18, 1, 56, 57, 58, 59, 60, 61, 62, 63, 64, 65, 66, 67, 68, 69, 70, 71, 72] (by decide +kernel) (by decide +kernel)
set_option maxRecDepth 20000 in
theorem gX11_carries_X11_settleOf : GoodIn wsX11_carries (wsV RX11 93 RX11 yX11_settleOf wsX11_settleOf) := goodIn_app (goodIn_of _ (by decide +kernel)) ggX11_carries_X11_settleOf
set_option maxRecDepth 20000 in
theorem ggX11_carries_X11_carryOut : GoodIn wsX11_carries wsX11_carryOut := goodIn_r _ [22, 9, 10, 23, 2, 24, 25, 26, 27, 6, 28, 29, 30, 31, 32, 1, 33, 34, 35, 36, 37, 38, 39, 40, 41, 42, 43, 44, 45, 46, 47, 48, 49, 50, 51, 52, 56, 57, 58, 59, 60, 61, 62, 63, 64, 65, 66, 67, 68, 69, 70, 71, 72] (by decide +kernel) (by decide +kernel)
set_option maxRecDepth 20000 in
theorem gX11_carries_X11_carryOut : GoodIn wsX11_carries (wsV RX11 96 RX11 yX11_carryOut wsX11_carryOut) := goodIn_app (goodIn_of _ (by decide +kernel)) ggX11_carries_X11_carryOut
set_option maxRecDepth 20000 in
theorem ggX11_carries_X11_size : GoodIn wsX11_carries wsX11_size := goodIn_r _ [55] (by decide +kernel) (by decide +kernel)
set_option maxRecDepth 20000 in
theorem gX11_carries_X11_size : GoodIn wsX11_carries (va_wsS RX11 100 yX11_size wsX11_size) := goodIn_app (goodIn_of _ (by decide +kernel)) ggX11_carries_X11_size
theorem dX11_carries_0 : decode cX11_carries 0 = .ok (.aload_n 0, 1) := by decide +kernel
theorem dX11_carries_1 : decode cX11_carries 1 = .ok (.invokevirtual 86, 3) := by decide +kernel
theorem dX11_carries_4 : decode cX11_carries 4 = .ok (.iconst 0, 1) := by decide +kernel
theorem dX11_carries_5 : decode cX11_carries 5 = .ok (.istore_n 1, 1) := by decide +kernel
theorem dX11_carries_6 : decode cX11_carries 6 = .ok (.iconst 0, 1) := by decide +kernel
theorem dX11_carries_7 : decode cX11_carries 7 = .ok (.istore_n 2, 1) := by decide +kernel
theorem dX11_carries_8 : decode cX11_carries 8 = .ok (.iload_n 2, 1) := by decide +kernel
theorem dX11_carries_9 : decode cX11_carries 9 = .ok (.aload_n 0, 1) := by decide +kernel
theorem dX11_carries_10 : decode cX11_carries 10 = .ok (.getfield 7, 3) := by decide +kernel
theorem dX11_carries_13 : decode cX11_carries 13 = .ok (.bipush 43, 2) := by decide +kernel
theorem dX11_carries_15 : decode cX11_carries 15 = .ok (.iaload, 1) := by decide +kernel
theorem dX11_carries_16 : decode cX11_carries 16 = .ok (.if_icmp .ge 33, 3) := by decide +kernel
theorem dX11_carries_19 : decode cX11_carries 19 = .ok (.aload_n 0, 1) := by decide +kernel
theorem dX11_carries_20 : decode cX11_carries 20 = .ok (.aload_n 0, 1) := by decide +kernel
theorem dX11_carries_21 : decode cX11_carries 21 = .ok (.iload_n 2, 1) := by decide +kernel
theorem dX11_carries_22 : decode cX11_carries 22 = .ok (.invokevirtual 89, 3) := by decide +kernel
theorem dX11_carries_25 : decode cX11_carries 25 = .ok (.aload_n 0, 1) := by decide +kernel
theorem dX11_carries_26 : decode cX11_carries 26 = .ok (.iload_n 2, 1) := by decide +kernel
theorem dX11_carries_27 : decode cX11_carries 27 = .ok (.invokevirtual 93, 3) := by decide +kernel
theorem dX11_carries_30 : decode cX11_carries 30 = .ok (.invokevirtual 96, 3) := by decide +kernel
theorem dX11_carries_33 : decode cX11_carries 33 = .ok (.iload_n 1, 1) := by decide +kernel
theorem dX11_carries_34 : decode cX11_carries 34 = .ok (.aload_n 0, 1) := by decide +kernel
theorem dX11_carries_35 : decode cX11_carries 35 = .ok (.getfield 80, 3) := by decide +kernel
theorem dX11_carries_38 : decode cX11_carries 38 = .ok (.invokestatic 100, 3) := by decide +kernel
theorem dX11_carries_41 : decode cX11_carries 41 = .ok (.iadd, 1) := by decide +kernel
theorem dX11_carries_42 : decode cX11_carries 42 = .ok (.istore_n 1, 1) := by decide +kernel
theorem dX11_carries_43 : decode cX11_carries 43 = .ok (.iinc 2 1, 3) := by decide +kernel
theorem dX11_carries_46 : decode cX11_carries 46 = .ok (.goto (-38), 3) := by decide +kernel
theorem dX11_carries_49 : decode cX11_carries 49 = .ok (.iload_n 1, 1) := by decide +kernel
theorem dX11_carries_50 : decode cX11_carries 50 = .ok (.ireturn, 1) := by decide +kernel
set_option maxRecDepth 20000 in
theorem ggX11_isSource_X11_in : GoodIn wsX11_isSource wsX11_in := goodIn_r _ [4] (by decide +kernel) (by decide +kernel)
set_option maxRecDepth 20000 in
theorem gX11_isSource_X11_in : GoodIn wsX11_isSource (va_wsS RX11 40 yX11_in wsX11_in) := goodIn_app (goodIn_of _ (by decide +kernel)) ggX11_isSource_X11_in
theorem dX11_isSource_0 : decode cX11_isSource 0 = .ok (.iload_n 1, 1) := by decide +kernel
theorem dX11_isSource_1 : decode cX11_isSource 1 = .ok (.iconst 0, 1) := by decide +kernel
theorem dX11_isSource_2 : decode cX11_isSource 2 = .ok (.sipush 4095, 3) := by decide +kernel
theorem dX11_isSource_5 : decode cX11_isSource 5 = .ok (.invokestatic 40, 3) := by decide +kernel
theorem dX11_isSource_8 : decode cX11_isSource 8 = .ok (.ifCond .ne 5, 3) := by decide +kernel
theorem dX11_isSource_11 : decode cX11_isSource 11 = .ok (.iconst 0, 1) := by decide +kernel
theorem dX11_isSource_12 : decode cX11_isSource 12 = .ok (.ireturn, 1) := by decide +kernel
theorem dX11_isSource_13 : decode cX11_isSource 13 = .ok (.iload_n 0, 1) := by decide +kernel
theorem dX11_isSource_14 : decode cX11_isSource 14 = .ok (.tableswitch 89 0 2 #[26, 40, 61], 26) := by decide +kernel
theorem dX11_isSource_40 : decode cX11_isSource 40 = .ok (.iload_n 2, 1) := by decide +kernel
theorem dX11_isSource_41 : decode cX11_isSource 41 = .ok (.ifCond .ne 11, 3) := by decide +kernel
theorem dX11_isSource_44 : decode cX11_isSource 44 = .ok (.iload_n 3, 1) := by decide +kernel
theorem dX11_isSource_45 : decode cX11_isSource 45 = .ok (.ifCond .ne 7, 3) := by decide +kernel
theorem dX11_isSource_48 : decode cX11_isSource 48 = .ok (.iconst 1, 1) := by decide +kernel
theorem dX11_isSource_49 : decode cX11_isSource 49 = .ok (.goto 4, 3) := by decide +kernel
theorem dX11_isSource_52 : decode cX11_isSource 52 = .ok (.iconst 0, 1) := by decide +kernel
theorem dX11_isSource_53 : decode cX11_isSource 53 = .ok (.ireturn, 1) := by decide +kernel
theorem dX11_isSource_54 : decode cX11_isSource 54 = .ok (.iload_n 2, 1) := by decide +kernel
theorem dX11_isSource_55 : decode cX11_isSource 55 = .ok (.bipush (-64), 2) := by decide +kernel
theorem dX11_isSource_57 : decode cX11_isSource 57 = .ok (.bipush 64, 2) := by decide +kernel
theorem dX11_isSource_59 : decode cX11_isSource 59 = .ok (.invokestatic 40, 3) := by decide +kernel
theorem dX11_isSource_62 : decode cX11_isSource 62 = .ok (.ifCond .eq 11, 3) := by decide +kernel
theorem dX11_isSource_65 : decode cX11_isSource 65 = .ok (.iload_n 3, 1) := by decide +kernel
theorem dX11_isSource_66 : decode cX11_isSource 66 = .ok (.ifCond .ne 7, 3) := by decide +kernel
theorem dX11_isSource_69 : decode cX11_isSource 69 = .ok (.iconst 1, 1) := by decide +kernel
theorem dX11_isSource_70 : decode cX11_isSource 70 = .ok (.goto 4, 3) := by decide +kernel
theorem dX11_isSource_73 : decode cX11_isSource 73 = .ok (.iconst 0, 1) := by decide +kernel
theorem dX11_isSource_74 : decode cX11_isSource 74 = .ok (.ireturn, 1) := by decide +kernel
theorem dX11_isSource_75 : decode cX11_isSource 75 = .ok (.iload_n 2, 1) := by decide +kernel
theorem dX11_isSource_76 : decode cX11_isSource 76 = .ok (.iconst 0, 1) := by decide +kernel
theorem dX11_isSource_77 : decode cX11_isSource 77 = .ok (.sipush 4095, 3) := by decide +kernel
theorem dX11_isSource_80 : decode cX11_isSource 80 = .ok (.invokestatic 40, 3) := by decide +kernel
theorem dX11_isSource_83 : decode cX11_isSource 83 = .ok (.ifCond .eq 18, 3) := by decide +kernel
theorem dX11_isSource_86 : decode cX11_isSource 86 = .ok (.iload_n 3, 1) := by decide +kernel
theorem dX11_isSource_87 : decode cX11_isSource 87 = .ok (.iconst 2, 1) := by decide +kernel
theorem dX11_isSource_88 : decode cX11_isSource 88 = .ok (.sipush 200, 3) := by decide +kernel
theorem dX11_isSource_91 : decode cX11_isSource 91 = .ok (.invokestatic 40, 3) := by decide +kernel
theorem dX11_isSource_94 : decode cX11_isSource 94 = .ok (.ifCond .eq 7, 3) := by decide +kernel
theorem dX11_isSource_97 : decode cX11_isSource 97 = .ok (.iconst 1, 1) := by decide +kernel
theorem dX11_isSource_98 : decode cX11_isSource 98 = .ok (.goto 4, 3) := by decide +kernel
theorem dX11_isSource_101 : decode cX11_isSource 101 = .ok (.iconst 0, 1) := by decide +kernel
theorem dX11_isSource_102 : decode cX11_isSource 102 = .ok (.ireturn, 1) := by decide +kernel
theorem dX11_isSource_103 : decode cX11_isSource 103 = .ok (.iconst 0, 1) := by decide +kernel
theorem dX11_isSource_104 : decode cX11_isSource 104 = .ok (.ireturn, 1) := by decide +kernel
theorem dX11_putSource_0 : decode cX11_putSource 0 = .ok (.aload_n 0, 1) := by decide +kernel
theorem dX11_putSource_1 : decode cX11_putSource 1 = .ok (.getfield 7, 3) := by decide +kernel
theorem dX11_putSource_4 : decode cX11_putSource 4 = .ok (.iconst 5, 1) := by decide +kernel
theorem dX11_putSource_5 : decode cX11_putSource 5 = .ok (.iload_n 1, 1) := by decide +kernel
theorem dX11_putSource_6 : decode cX11_putSource 6 = .ok (.imul, 1) := by decide +kernel
theorem dX11_putSource_7 : decode cX11_putSource 7 = .ok (.iconst 0, 1) := by decide +kernel
theorem dX11_putSource_8 : decode cX11_putSource 8 = .ok (.iadd, 1) := by decide +kernel
theorem dX11_putSource_9 : decode cX11_putSource 9 = .ok (.iload_n 2, 1) := by decide +kernel
theorem dX11_putSource_10 : decode cX11_putSource 10 = .ok (.iastore, 1) := by decide +kernel
theorem dX11_putSource_11 : decode cX11_putSource 11 = .ok (.aload_n 0, 1) := by decide +kernel
theorem dX11_putSource_12 : decode cX11_putSource 12 = .ok (.getfield 7, 3) := by decide +kernel
theorem dX11_putSource_15 : decode cX11_putSource 15 = .ok (.iconst 5, 1) := by decide +kernel
theorem dX11_putSource_16 : decode cX11_putSource 16 = .ok (.iload_n 1, 1) := by decide +kernel
theorem dX11_putSource_17 : decode cX11_putSource 17 = .ok (.imul, 1) := by decide +kernel
theorem dX11_putSource_18 : decode cX11_putSource 18 = .ok (.iconst 1, 1) := by decide +kernel
theorem dX11_putSource_19 : decode cX11_putSource 19 = .ok (.iadd, 1) := by decide +kernel
theorem dX11_putSource_20 : decode cX11_putSource 20 = .ok (.iload_n 3, 1) := by decide +kernel
theorem dX11_putSource_21 : decode cX11_putSource 21 = .ok (.iastore, 1) := by decide +kernel
theorem dX11_putSource_22 : decode cX11_putSource 22 = .ok (.aload_n 0, 1) := by decide +kernel
theorem dX11_putSource_23 : decode cX11_putSource 23 = .ok (.getfield 7, 3) := by decide +kernel
theorem dX11_putSource_26 : decode cX11_putSource 26 = .ok (.iconst 5, 1) := by decide +kernel
theorem dX11_putSource_27 : decode cX11_putSource 27 = .ok (.iload_n 1, 1) := by decide +kernel
theorem dX11_putSource_28 : decode cX11_putSource 28 = .ok (.imul, 1) := by decide +kernel
theorem dX11_putSource_29 : decode cX11_putSource 29 = .ok (.iconst 2, 1) := by decide +kernel
theorem dX11_putSource_30 : decode cX11_putSource 30 = .ok (.iadd, 1) := by decide +kernel
theorem dX11_putSource_31 : decode cX11_putSource 31 = .ok (.iload 4, 2) := by decide +kernel
theorem dX11_putSource_33 : decode cX11_putSource 33 = .ok (.iastore, 1) := by decide +kernel
theorem dX11_putSource_34 : decode cX11_putSource 34 = .ok (.aload_n 0, 1) := by decide +kernel
theorem dX11_putSource_35 : decode cX11_putSource 35 = .ok (.getfield 7, 3) := by decide +kernel
theorem dX11_putSource_38 : decode cX11_putSource 38 = .ok (.iconst 5, 1) := by decide +kernel
theorem dX11_putSource_39 : decode cX11_putSource 39 = .ok (.iload_n 1, 1) := by decide +kernel
theorem dX11_putSource_40 : decode cX11_putSource 40 = .ok (.imul, 1) := by decide +kernel
theorem dX11_putSource_41 : decode cX11_putSource 41 = .ok (.iconst 3, 1) := by decide +kernel
theorem dX11_putSource_42 : decode cX11_putSource 42 = .ok (.iadd, 1) := by decide +kernel
theorem dX11_putSource_43 : decode cX11_putSource 43 = .ok (.iload 5, 2) := by decide +kernel
theorem dX11_putSource_45 : decode cX11_putSource 45 = .ok (.iastore, 1) := by decide +kernel
theorem dX11_putSource_46 : decode cX11_putSource 46 = .ok (.return_, 1) := by decide +kernel
set_option maxRecDepth 20000 in
theorem ggX11_setSource_X11_isChannel : GoodIn wsX11_setSource wsX11_isChannel := goodIn_r _ [6, 7, 8, 5, 9] (by decide +kernel) (by decide +kernel)
set_option maxRecDepth 20000 in
theorem gX11_setSource_X11_isChannel : GoodIn wsX11_setSource (va_wsS RX11 103 yX11_isChannel wsX11_isChannel) := goodIn_app (goodIn_of _ (by decide +kernel)) ggX11_setSource_X11_isChannel
set_option maxRecDepth 20000 in
theorem ggX11_setSource_X11_isSource : GoodIn wsX11_setSource wsX11_isSource := goodIn_r _ [12, 7, 8, 5, 9] (by decide +kernel) (by decide +kernel)
set_option maxRecDepth 20000 in
theorem gX11_setSource_X11_isSource : GoodIn wsX11_setSource (va_wsS RX11 107 yX11_isSource wsX11_isSource) := goodIn_app (goodIn_of _ (by decide +kernel)) ggX11_setSource_X11_isSource
set_option maxRecDepth 20000 in
theorem ggX11_setSource_X11_act : GoodIn wsX11_setSource wsX11_act := goodIn_r _ [16, 17, 18, 19, 20, 21, 30, 31, 32, 33, 34, 35, 36, 37, 38, 39, 40, 41, 42, 43, 44, 45, 46] (by decide +kernel) (by decide +kernel)
set_option maxRecDepth 20000 in
theorem gX11_setSource_X11_act : GoodIn wsX11_setSource (wsV RX11 112 RX11 yX11_act wsX11_act) := goodIn_app (goodIn_of _ (by decide +kernel)) ggX11_setSource_X11_act
set_option maxRecDepth 20000 in
theorem ggX11_setSource_X11_of : GoodIn wsX11_setSource wsX11_of := goodIn_r _ [25, 20, 30, 31, 32, 33, 34, 35, 36, 37, 38, 39, 40, 41, 42, 43, 44, 45, 46] (by decide +kernel) (by decide +kernel)
set_option maxRecDepth 20000 in
theorem gX11_setSource_X11_of : GoodIn wsX11_setSource (wsV RX11 44 RX11 yX11_of wsX11_of) := goodIn_app (goodIn_of _ (by decide +kernel)) ggX11_setSource_X11_of
set_option maxRecDepth 20000 in
theorem ggX11_setSource_X11_putSource : GoodIn wsX11_setSource wsX11_putSource := goodIn_r _ [29, 20, 30, 31, 32, 33, 34, 35, 36, 37, 38, 39, 40, 41, 42, 43, 44, 45, 46] (by decide +kernel) (by decide +kernel)
set_option maxRecDepth 20000 in
theorem gX11_setSource_X11_putSource : GoodIn wsX11_setSource (wsV RX11 115 RX11 yX11_putSource wsX11_putSource) := goodIn_app (goodIn_of _ (by decide +kernel)) ggX11_setSource_X11_putSource
theorem dX11_setSource_0 : decode cX11_setSource 0 = .ok (.aload_n 0, 1) := by decide +kernel
theorem dX11_setSource_1 : decode cX11_setSource 1 = .ok (.iconst 0, 1) := by decide +kernel
theorem dX11_setSource_2 : decode cX11_setSource 2 = .ok (.putfield 29, 3) := by decide +kernel
theorem dX11_setSource_5 : decode cX11_setSource 5 = .ok (.iload_n 1, 1) := by decide +kernel
theorem dX11_setSource_6 : decode cX11_setSource 6 = .ok (.invokestatic 103, 3) := by decide +kernel
theorem dX11_setSource_9 : decode cX11_setSource 9 = .ok (.ifCond .eq 15, 3) := by decide +kernel
theorem dX11_setSource_12 : decode cX11_setSource 12 = .ok (.iload_n 2, 1) := by decide +kernel
theorem dX11_setSource_13 : decode cX11_setSource 13 = .ok (.iload_n 3, 1) := by decide +kernel
theorem dX11_setSource_14 : decode cX11_setSource 14 = .ok (.iload 4, 2) := by decide +kernel
theorem dX11_setSource_16 : decode cX11_setSource 16 = .ok (.iload 5, 2) := by decide +kernel
theorem dX11_setSource_18 : decode cX11_setSource 18 = .ok (.invokestatic 107, 3) := by decide +kernel
theorem dX11_setSource_21 : decode cX11_setSource 21 = .ok (.ifCond .ne 6, 3) := by decide +kernel
theorem dX11_setSource_24 : decode cX11_setSource 24 = .ok (.ldc 111, 2) := by decide +kernel
theorem dX11_setSource_26 : decode cX11_setSource 26 = .ok (.ireturn, 1) := by decide +kernel
theorem dX11_setSource_27 : decode cX11_setSource 27 = .ok (.aload_n 0, 1) := by decide +kernel
theorem dX11_setSource_28 : decode cX11_setSource 28 = .ok (.invokevirtual 112, 3) := by decide +kernel
theorem dX11_setSource_31 : decode cX11_setSource 31 = .ok (.aload_n 0, 1) := by decide +kernel
theorem dX11_setSource_32 : decode cX11_setSource 32 = .ok (.iload_n 1, 1) := by decide +kernel
theorem dX11_setSource_33 : decode cX11_setSource 33 = .ok (.iconst 0, 1) := by decide +kernel
theorem dX11_setSource_34 : decode cX11_setSource 34 = .ok (.invokevirtual 44, 3) := by decide +kernel
theorem dX11_setSource_37 : decode cX11_setSource 37 = .ok (.istore 6, 2) := by decide +kernel
theorem dX11_setSource_39 : decode cX11_setSource 39 = .ok (.aload_n 0, 1) := by decide +kernel
theorem dX11_setSource_40 : decode cX11_setSource 40 = .ok (.iload_n 1, 1) := by decide +kernel
theorem dX11_setSource_41 : decode cX11_setSource 41 = .ok (.iload_n 2, 1) := by decide +kernel
theorem dX11_setSource_42 : decode cX11_setSource 42 = .ok (.iload_n 3, 1) := by decide +kernel
theorem dX11_setSource_43 : decode cX11_setSource 43 = .ok (.iload 4, 2) := by decide +kernel
theorem dX11_setSource_45 : decode cX11_setSource 45 = .ok (.iload 5, 2) := by decide +kernel
theorem dX11_setSource_47 : decode cX11_setSource 47 = .ok (.invokevirtual 115, 3) := by decide +kernel
theorem dX11_setSource_50 : decode cX11_setSource 50 = .ok (.iload 6, 2) := by decide +kernel
theorem dX11_setSource_52 : decode cX11_setSource 52 = .ok (.ireturn, 1) := by decide +kernel
set_option maxRecDepth 20000 in
theorem ggX11_put_X11_act : GoodIn wsX11_put wsX11_act := goodIn_r _ [6, 7, 8, 9, 1, 10, 11, 12, 13, 14, 15, 16, 17, 18, 19, 20, 21, 22, 23, 24, 25, 26, 27] (by decide +kernel) (by decide +kernel)
set_option maxRecDepth 20000 in
theorem gX11_put_X11_act : GoodIn wsX11_put (wsV RX11 112 RX11 yX11_act wsX11_act) := goodIn_app (goodIn_of _ (by decide +kernel)) ggX11_put_X11_act
theorem dX11_put_0 : decode cX11_put 0 = .ok (.aload_n 0, 1) := by decide +kernel
theorem dX11_put_1 : decode cX11_put 1 = .ok (.invokevirtual 112, 3) := by decide +kernel
theorem dX11_put_4 : decode cX11_put 4 = .ok (.aload_n 0, 1) := by decide +kernel
theorem dX11_put_5 : decode cX11_put 5 = .ok (.getfield 7, 3) := by decide +kernel
theorem dX11_put_8 : decode cX11_put 8 = .ok (.iload_n 1, 1) := by decide +kernel
theorem dX11_put_9 : decode cX11_put 9 = .ok (.iaload, 1) := by decide +kernel
theorem dX11_put_10 : decode cX11_put 10 = .ok (.istore_n 3, 1) := by decide +kernel
theorem dX11_put_11 : decode cX11_put 11 = .ok (.aload_n 0, 1) := by decide +kernel
theorem dX11_put_12 : decode cX11_put 12 = .ok (.getfield 7, 3) := by decide +kernel
theorem dX11_put_15 : decode cX11_put 15 = .ok (.iload_n 1, 1) := by decide +kernel
theorem dX11_put_16 : decode cX11_put 16 = .ok (.iload_n 2, 1) := by decide +kernel
theorem dX11_put_17 : decode cX11_put 17 = .ok (.iastore, 1) := by decide +kernel
theorem dX11_put_18 : decode cX11_put 18 = .ok (.iload_n 3, 1) := by decide +kernel
theorem dX11_put_19 : decode cX11_put 19 = .ok (.ireturn, 1) := by decide +kernel
set_option maxRecDepth 20000 in
theorem ggX11_setResistance_X11_isChannel : GoodIn wsX11_setResistance wsX11_isChannel := goodIn_r _ [6, 7, 8, 5, 9] (by decide +kernel) (by decide +kernel)
set_option maxRecDepth 20000 in
theorem gX11_setResistance_X11_isChannel : GoodIn wsX11_setResistance (va_wsS RX11 103 yX11_isChannel wsX11_isChannel) := goodIn_app (goodIn_of _ (by decide +kernel)) ggX11_setResistance_X11_isChannel
set_option maxRecDepth 20000 in
theorem ggX11_setResistance_X11_in : GoodIn wsX11_setResistance wsX11_in := goodIn_r _ [9] (by decide +kernel) (by decide +kernel)
set_option maxRecDepth 20000 in
theorem gX11_setResistance_X11_in : GoodIn wsX11_setResistance (va_wsS RX11 40 yX11_in wsX11_in) := goodIn_app (goodIn_of _ (by decide +kernel)) ggX11_setResistance_X11_in
set_option maxRecDepth 20000 in
theorem ggX11_setResistance_X11_put : GoodIn wsX11_setResistance wsX11_put := goodIn_r _ [13, 14, 15, 16, 17, 5, 18, 19, 20, 21, 22, 23, 24, 25, 26, 27, 28, 29, 30, 31, 32, 33, 34, 35, 36, 37, 38, 39] (by decide +kernel) (by decide +kernel)
set_option maxRecDepth 20000 in
theorem gX11_setResistance_X11_put : GoodIn wsX11_setResistance (wsV RX11 119 RX11 yX11_put wsX11_put) := goodIn_app (goodIn_of _ (by decide +kernel)) ggX11_setResistance_X11_put
theorem dX11_setResistance_0 : decode cX11_setResistance 0 = .ok (.aload_n 0, 1) := by decide +kernel
theorem dX11_setResistance_1 : decode cX11_setResistance 1 = .ok (.iconst 0, 1) := by decide +kernel
theorem dX11_setResistance_2 : decode cX11_setResistance 2 = .ok (.putfield 29, 3) := by decide +kernel
theorem dX11_setResistance_5 : decode cX11_setResistance 5 = .ok (.iload_n 1, 1) := by decide +kernel
theorem dX11_setResistance_6 : decode cX11_setResistance 6 = .ok (.invokestatic 103, 3) := by decide +kernel
theorem dX11_setResistance_9 : decode cX11_setResistance 9 = .ok (.ifCond .eq 26, 3) := by decide +kernel
theorem dX11_setResistance_12 : decode cX11_setResistance 12 = .ok (.iload_n 2, 1) := by decide +kernel
theorem dX11_setResistance_13 : decode cX11_setResistance 13 = .ok (.iconst 0, 1) := by decide +kernel
theorem dX11_setResistance_14 : decode cX11_setResistance 14 = .ok (.bipush 31, 2) := by decide +kernel
theorem dX11_setResistance_16 : decode cX11_setResistance 16 = .ok (.invokestatic 40, 3) := by decide +kernel
theorem dX11_setResistance_19 : decode cX11_setResistance 19 = .ok (.ifCond .eq 16, 3) := by decide +kernel
theorem dX11_setResistance_22 : decode cX11_setResistance 22 = .ok (.aload_n 0, 1) := by decide +kernel
theorem dX11_setResistance_23 : decode cX11_setResistance 23 = .ok (.iconst 5, 1) := by decide +kernel
theorem dX11_setResistance_24 : decode cX11_setResistance 24 = .ok (.iload_n 1, 1) := by decide +kernel
theorem dX11_setResistance_25 : decode cX11_setResistance 25 = .ok (.imul, 1) := by decide +kernel
theorem dX11_setResistance_26 : decode cX11_setResistance 26 = .ok (.iconst 4, 1) := by decide +kernel
theorem dX11_setResistance_27 : decode cX11_setResistance 27 = .ok (.iadd, 1) := by decide +kernel
theorem dX11_setResistance_28 : decode cX11_setResistance 28 = .ok (.iload_n 2, 1) := by decide +kernel
theorem dX11_setResistance_29 : decode cX11_setResistance 29 = .ok (.invokevirtual 119, 3) := by decide +kernel
theorem dX11_setResistance_32 : decode cX11_setResistance 32 = .ok (.goto 5, 3) := by decide +kernel
theorem dX11_setResistance_35 : decode cX11_setResistance 35 = .ok (.ldc 111, 2) := by decide +kernel
theorem dX11_setResistance_37 : decode cX11_setResistance 37 = .ok (.ireturn, 1) := by decide +kernel
set_option maxRecDepth 20000 in
theorem ggX11_set_X11_in : GoodIn wsX11_set wsX11_in := goodIn_r _ [6] (by decide +kernel) (by decide +kernel)
set_option maxRecDepth 20000 in
theorem gX11_set_X11_in : GoodIn wsX11_set (va_wsS RX11 40 yX11_in wsX11_in) := goodIn_app (goodIn_of _ (by decide +kernel)) ggX11_set_X11_in
set_option maxRecDepth 20000 in
theorem ggX11_set_X11_put : GoodIn wsX11_set wsX11_put := goodIn_r _ [10, 11, 12, 13, 14, 5, 15, 16, 17, 18, 19, 20, 21, 22, 23, 24, 25, 26, 27, 28, 29, 30, 31, 32, 33, 34, 35, 36] (by decide +kernel) (by decide +kernel)
set_option maxRecDepth 20000 in
theorem gX11_set_X11_put : GoodIn wsX11_set (wsV RX11 119 RX11 yX11_put wsX11_put) := goodIn_app (goodIn_of _ (by decide +kernel)) ggX11_set_X11_put
theorem dX11_set_0 : decode cX11_set 0 = .ok (.aload_n 0, 1) := by decide +kernel
theorem dX11_set_1 : decode cX11_set 1 = .ok (.iconst 0, 1) := by decide +kernel
theorem dX11_set_2 : decode cX11_set 2 = .ok (.putfield 29, 3) := by decide +kernel
theorem dX11_set_5 : decode cX11_set 5 = .ok (.iload_n 1, 1) := by decide +kernel
theorem dX11_set_6 : decode cX11_set 6 = .ok (.ifCond .ne 14, 3) := by decide +kernel
theorem dX11_set_9 : decode cX11_set 9 = .ok (.iload_n 2, 1) := by decide +kernel
theorem dX11_set_10 : decode cX11_set 10 = .ok (.iconst 0, 1) := by decide +kernel
theorem dX11_set_11 : decode cX11_set 11 = .ok (.sipush 4095, 3) := by decide +kernel
theorem dX11_set_14 : decode cX11_set 14 = .ok (.invokestatic 40, 3) := by decide +kernel
theorem dX11_set_17 : decode cX11_set 17 = .ok (.goto 42, 3) := by decide +kernel
theorem dX11_set_20 : decode cX11_set 20 = .ok (.iload_n 1, 1) := by decide +kernel
theorem dX11_set_21 : decode cX11_set 21 = .ok (.iconst 1, 1) := by decide +kernel
theorem dX11_set_22 : decode cX11_set 22 = .ok (.if_icmp .ne 16, 3) := by decide +kernel
theorem dX11_set_25 : decode cX11_set 25 = .ok (.iload_n 2, 1) := by decide +kernel
theorem dX11_set_26 : decode cX11_set 26 = .ok (.sipush 900, 3) := by decide +kernel
theorem dX11_set_29 : decode cX11_set 29 = .ok (.sipush 1100, 3) := by decide +kernel
theorem dX11_set_32 : decode cX11_set 32 = .ok (.invokestatic 40, 3) := by decide +kernel
theorem dX11_set_35 : decode cX11_set 35 = .ok (.goto 24, 3) := by decide +kernel
theorem dX11_set_38 : decode cX11_set 38 = .ok (.iload_n 1, 1) := by decide +kernel
theorem dX11_set_39 : decode cX11_set 39 = .ok (.iconst 2, 1) := by decide +kernel
theorem dX11_set_40 : decode cX11_set 40 = .ok (.if_icmp .ne 18, 3) := by decide +kernel
theorem dX11_set_43 : decode cX11_set 43 = .ok (.iload_n 2, 1) := by decide +kernel
theorem dX11_set_44 : decode cX11_set 44 = .ok (.bipush (-100), 2) := by decide +kernel
theorem dX11_set_46 : decode cX11_set 46 = .ok (.bipush 100, 2) := by decide +kernel
theorem dX11_set_48 : decode cX11_set 48 = .ok (.invokestatic 40, 3) := by decide +kernel
theorem dX11_set_51 : decode cX11_set 51 = .ok (.ifCond .eq 7, 3) := by decide +kernel
theorem dX11_set_54 : decode cX11_set 54 = .ok (.iconst 1, 1) := by decide +kernel
theorem dX11_set_55 : decode cX11_set 55 = .ok (.goto 4, 3) := by decide +kernel
theorem dX11_set_58 : decode cX11_set 58 = .ok (.iconst 0, 1) := by decide +kernel
theorem dX11_set_59 : decode cX11_set 59 = .ok (.istore_n 3, 1) := by decide +kernel
theorem dX11_set_60 : decode cX11_set 60 = .ok (.iload_n 3, 1) := by decide +kernel
theorem dX11_set_61 : decode cX11_set 61 = .ok (.ifCond .eq 15, 3) := by decide +kernel
theorem dX11_set_64 : decode cX11_set 64 = .ok (.aload_n 0, 1) := by decide +kernel
theorem dX11_set_65 : decode cX11_set 65 = .ok (.bipush 40, 2) := by decide +kernel
theorem dX11_set_67 : decode cX11_set 67 = .ok (.iload_n 1, 1) := by decide +kernel
theorem dX11_set_68 : decode cX11_set 68 = .ok (.iadd, 1) := by decide +kernel
theorem dX11_set_69 : decode cX11_set 69 = .ok (.iload_n 2, 1) := by decide +kernel
theorem dX11_set_70 : decode cX11_set 70 = .ok (.invokevirtual 119, 3) := by decide +kernel
theorem dX11_set_73 : decode cX11_set 73 = .ok (.goto 5, 3) := by decide +kernel
theorem dX11_set_76 : decode cX11_set 76 = .ok (.ldc 111, 2) := by decide +kernel
theorem dX11_set_78 : decode cX11_set 78 = .ok (.ireturn, 1) := by decide +kernel
theorem dX11_insert_0 : decode cX11_insert 0 = .ok (.aload_n 0, 1) := by decide +kernel
theorem dX11_insert_1 : decode cX11_insert 1 = .ok (.getfield 7, 3) := by decide +kernel
theorem dX11_insert_4 : decode cX11_insert 4 = .ok (.bipush 43, 2) := by decide +kernel
theorem dX11_insert_6 : decode cX11_insert 6 = .ok (.iaload, 1) := by decide +kernel
theorem dX11_insert_7 : decode cX11_insert 7 = .ok (.istore 4, 2) := by decide +kernel
theorem dX11_insert_9 : decode cX11_insert 9 = .ok (.iload 4, 2) := by decide +kernel
theorem dX11_insert_11 : decode cX11_insert 11 = .ok (.iload_n 3, 1) := by decide +kernel
theorem dX11_insert_12 : decode cX11_insert 12 = .ok (.if_icmp .le 63, 3) := by decide +kernel
theorem dX11_insert_15 : decode cX11_insert 15 = .ok (.aload_n 0, 1) := by decide +kernel
theorem dX11_insert_16 : decode cX11_insert 16 = .ok (.getfield 7, 3) := by decide +kernel
theorem dX11_insert_19 : decode cX11_insert 19 = .ok (.bipush 44, 2) := by decide +kernel
theorem dX11_insert_21 : decode cX11_insert 21 = .ok (.iconst 2, 1) := by decide +kernel
theorem dX11_insert_22 : decode cX11_insert 22 = .ok (.iload 4, 2) := by decide +kernel
theorem dX11_insert_24 : decode cX11_insert 24 = .ok (.imul, 1) := by decide +kernel
theorem dX11_insert_25 : decode cX11_insert 25 = .ok (.iadd, 1) := by decide +kernel
theorem dX11_insert_26 : decode cX11_insert 26 = .ok (.aload_n 0, 1) := by decide +kernel
theorem dX11_insert_27 : decode cX11_insert 27 = .ok (.getfield 7, 3) := by decide +kernel
theorem dX11_insert_30 : decode cX11_insert 30 = .ok (.bipush 44, 2) := by decide +kernel
theorem dX11_insert_32 : decode cX11_insert 32 = .ok (.iconst 2, 1) := by decide +kernel
theorem dX11_insert_33 : decode cX11_insert 33 = .ok (.iload 4, 2) := by decide +kernel
theorem dX11_insert_35 : decode cX11_insert 35 = .ok (.imul, 1) := by decide +kernel
theorem dX11_insert_36 : decode cX11_insert 36 = .ok (.iadd, 1) := by decide +kernel
theorem dX11_insert_37 : decode cX11_insert 37 = .ok (.iconst 2, 1) := by decide +kernel
theorem dX11_insert_38 : decode cX11_insert 38 = .ok (.isub, 1) := by decide +kernel
theorem dX11_insert_39 : decode cX11_insert 39 = .ok (.iaload, 1) := by decide +kernel
theorem dX11_insert_40 : decode cX11_insert 40 = .ok (.iastore, 1) := by decide +kernel
theorem dX11_insert_41 : decode cX11_insert 41 = .ok (.aload_n 0, 1) := by decide +kernel
theorem dX11_insert_42 : decode cX11_insert 42 = .ok (.getfield 7, 3) := by decide +kernel
theorem dX11_insert_45 : decode cX11_insert 45 = .ok (.bipush 44, 2) := by decide +kernel
theorem dX11_insert_47 : decode cX11_insert 47 = .ok (.iconst 2, 1) := by decide +kernel
theorem dX11_insert_48 : decode cX11_insert 48 = .ok (.iload 4, 2) := by decide +kernel
theorem dX11_insert_50 : decode cX11_insert 50 = .ok (.imul, 1) := by decide +kernel
theorem dX11_insert_51 : decode cX11_insert 51 = .ok (.iadd, 1) := by decide +kernel
theorem dX11_insert_52 : decode cX11_insert 52 = .ok (.iconst 1, 1) := by decide +kernel
theorem dX11_insert_53 : decode cX11_insert 53 = .ok (.iadd, 1) := by decide +kernel
theorem dX11_insert_54 : decode cX11_insert 54 = .ok (.aload_n 0, 1) := by decide +kernel
theorem dX11_insert_55 : decode cX11_insert 55 = .ok (.getfield 7, 3) := by decide +kernel
theorem dX11_insert_58 : decode cX11_insert 58 = .ok (.bipush 44, 2) := by decide +kernel
theorem dX11_insert_60 : decode cX11_insert 60 = .ok (.iconst 2, 1) := by decide +kernel
theorem dX11_insert_61 : decode cX11_insert 61 = .ok (.iload 4, 2) := by decide +kernel
theorem dX11_insert_63 : decode cX11_insert 63 = .ok (.imul, 1) := by decide +kernel
theorem dX11_insert_64 : decode cX11_insert 64 = .ok (.iadd, 1) := by decide +kernel
theorem dX11_insert_65 : decode cX11_insert 65 = .ok (.iconst 1, 1) := by decide +kernel
theorem dX11_insert_66 : decode cX11_insert 66 = .ok (.isub, 1) := by decide +kernel
theorem dX11_insert_67 : decode cX11_insert 67 = .ok (.iaload, 1) := by decide +kernel
theorem dX11_insert_68 : decode cX11_insert 68 = .ok (.iastore, 1) := by decide +kernel
theorem dX11_insert_69 : decode cX11_insert 69 = .ok (.iinc 4 (-1), 3) := by decide +kernel
theorem dX11_insert_72 : decode cX11_insert 72 = .ok (.goto (-63), 3) := by decide +kernel
theorem dX11_insert_75 : decode cX11_insert 75 = .ok (.aload_n 0, 1) := by decide +kernel
theorem dX11_insert_76 : decode cX11_insert 76 = .ok (.getfield 7, 3) := by decide +kernel
theorem dX11_insert_79 : decode cX11_insert 79 = .ok (.bipush 44, 2) := by decide +kernel
theorem dX11_insert_81 : decode cX11_insert 81 = .ok (.iconst 2, 1) := by decide +kernel
theorem dX11_insert_82 : decode cX11_insert 82 = .ok (.iload_n 3, 1) := by decide +kernel
theorem dX11_insert_83 : decode cX11_insert 83 = .ok (.imul, 1) := by decide +kernel
theorem dX11_insert_84 : decode cX11_insert 84 = .ok (.iadd, 1) := by decide +kernel
theorem dX11_insert_85 : decode cX11_insert 85 = .ok (.iload_n 1, 1) := by decide +kernel
theorem dX11_insert_86 : decode cX11_insert 86 = .ok (.iastore, 1) := by decide +kernel
theorem dX11_insert_87 : decode cX11_insert 87 = .ok (.aload_n 0, 1) := by decide +kernel
theorem dX11_insert_88 : decode cX11_insert 88 = .ok (.getfield 7, 3) := by decide +kernel
theorem dX11_insert_91 : decode cX11_insert 91 = .ok (.bipush 44, 2) := by decide +kernel
theorem dX11_insert_93 : decode cX11_insert 93 = .ok (.iconst 2, 1) := by decide +kernel
theorem dX11_insert_94 : decode cX11_insert 94 = .ok (.iload_n 3, 1) := by decide +kernel
theorem dX11_insert_95 : decode cX11_insert 95 = .ok (.imul, 1) := by decide +kernel
theorem dX11_insert_96 : decode cX11_insert 96 = .ok (.iadd, 1) := by decide +kernel
theorem dX11_insert_97 : decode cX11_insert 97 = .ok (.iconst 1, 1) := by decide +kernel
theorem dX11_insert_98 : decode cX11_insert 98 = .ok (.iadd, 1) := by decide +kernel
theorem dX11_insert_99 : decode cX11_insert 99 = .ok (.iload_n 2, 1) := by decide +kernel
theorem dX11_insert_100 : decode cX11_insert 100 = .ok (.iastore, 1) := by decide +kernel
theorem dX11_insert_101 : decode cX11_insert 101 = .ok (.aload_n 0, 1) := by decide +kernel
theorem dX11_insert_102 : decode cX11_insert 102 = .ok (.getfield 7, 3) := by decide +kernel
theorem dX11_insert_105 : decode cX11_insert 105 = .ok (.bipush 43, 2) := by decide +kernel
theorem dX11_insert_107 : decode cX11_insert 107 = .ok (.dup2, 1) := by decide +kernel
theorem dX11_insert_108 : decode cX11_insert 108 = .ok (.iaload, 1) := by decide +kernel
theorem dX11_insert_109 : decode cX11_insert 109 = .ok (.iconst 1, 1) := by decide +kernel
theorem dX11_insert_110 : decode cX11_insert 110 = .ok (.iadd, 1) := by decide +kernel
theorem dX11_insert_111 : decode cX11_insert 111 = .ok (.iastore, 1) := by decide +kernel
theorem dX11_insert_112 : decode cX11_insert 112 = .ok (.return_, 1) := by decide +kernel
set_option maxRecDepth 20000 in
theorem ggX11_addEntry_X11_in : GoodIn wsX11_addEntry wsX11_in := goodIn_r _ [8] (by decide +kernel) (by decide +kernel)
set_option maxRecDepth 20000 in
theorem gX11_addEntry_X11_in : GoodIn wsX11_addEntry (va_wsS RX11 40 yX11_in wsX11_in) := goodIn_app (goodIn_of _ (by decide +kernel)) ggX11_addEntry_X11_in
set_option maxRecDepth 20000 in
theorem ggX11_addEntry_X11_act : GoodIn wsX11_addEntry wsX11_act := goodIn_r _ [12, 13, 14, 15, 2, 16, 21, 22, 23, 24, 25, 26, 27, 28, 29, 30, 31, 32, 33, 34, 35, 36, 37] (by decide +kernel) (by decide +kernel)
set_option maxRecDepth 20000 in
theorem gX11_addEntry_X11_act : GoodIn wsX11_addEntry (wsV RX11 112 RX11 yX11_act wsX11_act) := goodIn_app (goodIn_of _ (by decide +kernel)) ggX11_addEntry_X11_act
set_option maxRecDepth 20000 in
theorem ggX11_addEntry_X11_insert : GoodIn wsX11_addEntry wsX11_insert := goodIn_r _ [20, 2, 21, 22, 23, 24, 25, 26, 27, 28, 29, 30, 31, 32, 33, 34, 35, 36, 37] (by decide +kernel) (by decide +kernel)
set_option maxRecDepth 20000 in
theorem gX11_addEntry_X11_insert : GoodIn wsX11_addEntry (wsV RX11 123 RX11 yX11_insert wsX11_insert) := goodIn_app (goodIn_of _ (by decide +kernel)) ggX11_addEntry_X11_insert
theorem dX11_addEntry_0 : decode cX11_addEntry 0 = .ok (.aload_n 0, 1) := by decide +kernel
theorem dX11_addEntry_1 : decode cX11_addEntry 1 = .ok (.iconst 0, 1) := by decide +kernel
theorem dX11_addEntry_2 : decode cX11_addEntry 2 = .ok (.putfield 29, 3) := by decide +kernel
theorem dX11_addEntry_5 : decode cX11_addEntry 5 = .ok (.iload_n 1, 1) := by decide +kernel
theorem dX11_addEntry_6 : decode cX11_addEntry 6 = .ok (.iconst 0, 1) := by decide +kernel
theorem dX11_addEntry_7 : decode cX11_addEntry 7 = .ok (.bipush 9, 2) := by decide +kernel
theorem dX11_addEntry_9 : decode cX11_addEntry 9 = .ok (.invokestatic 40, 3) := by decide +kernel
theorem dX11_addEntry_12 : decode cX11_addEntry 12 = .ok (.ifCond .eq 28, 3) := by decide +kernel
theorem dX11_addEntry_15 : decode cX11_addEntry 15 = .ok (.iload_n 2, 1) := by decide +kernel
theorem dX11_addEntry_16 : decode cX11_addEntry 16 = .ok (.iconst 0, 1) := by decide +kernel
theorem dX11_addEntry_17 : decode cX11_addEntry 17 = .ok (.bipush 7, 2) := by decide +kernel
theorem dX11_addEntry_19 : decode cX11_addEntry 19 = .ok (.invokestatic 40, 3) := by decide +kernel
theorem dX11_addEntry_22 : decode cX11_addEntry 22 = .ok (.ifCond .eq 18, 3) := by decide +kernel
theorem dX11_addEntry_25 : decode cX11_addEntry 25 = .ok (.iload_n 3, 1) := by decide +kernel
theorem dX11_addEntry_26 : decode cX11_addEntry 26 = .ok (.iconst 0, 1) := by decide +kernel
theorem dX11_addEntry_27 : decode cX11_addEntry 27 = .ok (.aload_n 0, 1) := by decide +kernel
theorem dX11_addEntry_28 : decode cX11_addEntry 28 = .ok (.getfield 7, 3) := by decide +kernel
theorem dX11_addEntry_31 : decode cX11_addEntry 31 = .ok (.bipush 43, 2) := by decide +kernel
theorem dX11_addEntry_33 : decode cX11_addEntry 33 = .ok (.iaload, 1) := by decide +kernel
theorem dX11_addEntry_34 : decode cX11_addEntry 34 = .ok (.invokestatic 40, 3) := by decide +kernel
theorem dX11_addEntry_37 : decode cX11_addEntry 37 = .ok (.ifCond .ne 6, 3) := by decide +kernel
theorem dX11_addEntry_40 : decode cX11_addEntry 40 = .ok (.ldc 111, 2) := by decide +kernel
theorem dX11_addEntry_42 : decode cX11_addEntry 42 = .ok (.ireturn, 1) := by decide +kernel
theorem dX11_addEntry_43 : decode cX11_addEntry 43 = .ok (.aload_n 0, 1) := by decide +kernel
theorem dX11_addEntry_44 : decode cX11_addEntry 44 = .ok (.getfield 7, 3) := by decide +kernel
theorem dX11_addEntry_47 : decode cX11_addEntry 47 = .ok (.bipush 43, 2) := by decide +kernel
theorem dX11_addEntry_49 : decode cX11_addEntry 49 = .ok (.iaload, 1) := by decide +kernel
theorem dX11_addEntry_50 : decode cX11_addEntry 50 = .ok (.bipush 16, 2) := by decide +kernel
theorem dX11_addEntry_52 : decode cX11_addEntry 52 = .ok (.if_icmp .ne 6, 3) := by decide +kernel
theorem dX11_addEntry_55 : decode cX11_addEntry 55 = .ok (.ldc 122, 2) := by decide +kernel
theorem dX11_addEntry_57 : decode cX11_addEntry 57 = .ok (.ireturn, 1) := by decide +kernel
theorem dX11_addEntry_58 : decode cX11_addEntry 58 = .ok (.aload_n 0, 1) := by decide +kernel
theorem dX11_addEntry_59 : decode cX11_addEntry 59 = .ok (.invokevirtual 112, 3) := by decide +kernel
theorem dX11_addEntry_62 : decode cX11_addEntry 62 = .ok (.aload_n 0, 1) := by decide +kernel
theorem dX11_addEntry_63 : decode cX11_addEntry 63 = .ok (.iload_n 1, 1) := by decide +kernel
theorem dX11_addEntry_64 : decode cX11_addEntry 64 = .ok (.iload_n 2, 1) := by decide +kernel
theorem dX11_addEntry_65 : decode cX11_addEntry 65 = .ok (.iload_n 3, 1) := by decide +kernel
theorem dX11_addEntry_66 : decode cX11_addEntry 66 = .ok (.invokevirtual 123, 3) := by decide +kernel
theorem dX11_addEntry_69 : decode cX11_addEntry 69 = .ok (.aload_n 0, 1) := by decide +kernel
theorem dX11_addEntry_70 : decode cX11_addEntry 70 = .ok (.getfield 7, 3) := by decide +kernel
theorem dX11_addEntry_73 : decode cX11_addEntry 73 = .ok (.bipush 43, 2) := by decide +kernel
theorem dX11_addEntry_75 : decode cX11_addEntry 75 = .ok (.iaload, 1) := by decide +kernel
theorem dX11_addEntry_76 : decode cX11_addEntry 76 = .ok (.ireturn, 1) := by decide +kernel
set_option maxRecDepth 20000 in
theorem ggX11_removeEntry_X11_isEntry : GoodIn wsX11_removeEntry wsX11_isEntry := goodIn_r _ [8, 3, 9, 10, 7, 11, 20, 21, 22, 23, 24, 25, 26, 27, 28, 29, 30, 31, 32, 33, 34, 35, 36] (by decide +kernel) (by decide +kernel)
set_option maxRecDepth 20000 in
theorem gX11_removeEntry_X11_isEntry : GoodIn wsX11_removeEntry (wsV RX11 127 RX11 yX11_isEntry wsX11_isEntry) := goodIn_app (goodIn_of _ (by decide +kernel)) ggX11_removeEntry_X11_isEntry
set_option maxRecDepth 20000 in
theorem ggX11_removeEntry_X11_act : GoodIn wsX11_removeEntry wsX11_act := goodIn_r _ [15, 16, 17, 18, 3, 19, 20, 21, 22, 23, 24, 25, 26, 27, 28, 29, 30, 31, 32, 33, 34, 35, 36] (by decide +kernel) (by decide +kernel)
set_option maxRecDepth 20000 in
theorem gX11_removeEntry_X11_act : GoodIn wsX11_removeEntry (wsV RX11 112 RX11 yX11_act wsX11_act) := goodIn_app (goodIn_of _ (by decide +kernel)) ggX11_removeEntry_X11_act
theorem dX11_removeEntry_0 : decode cX11_removeEntry 0 = .ok (.aload_n 0, 1) := by decide +kernel
theorem dX11_removeEntry_1 : decode cX11_removeEntry 1 = .ok (.iconst 0, 1) := by decide +kernel
theorem dX11_removeEntry_2 : decode cX11_removeEntry 2 = .ok (.putfield 29, 3) := by decide +kernel
theorem dX11_removeEntry_5 : decode cX11_removeEntry 5 = .ok (.aload_n 0, 1) := by decide +kernel
theorem dX11_removeEntry_6 : decode cX11_removeEntry 6 = .ok (.iload_n 1, 1) := by decide +kernel
theorem dX11_removeEntry_7 : decode cX11_removeEntry 7 = .ok (.invokevirtual 127, 3) := by decide +kernel
theorem dX11_removeEntry_10 : decode cX11_removeEntry 10 = .ok (.ifCond .ne 6, 3) := by decide +kernel
theorem dX11_removeEntry_13 : decode cX11_removeEntry 13 = .ok (.ldc 111, 2) := by decide +kernel
theorem dX11_removeEntry_15 : decode cX11_removeEntry 15 = .ok (.ireturn, 1) := by decide +kernel
theorem dX11_removeEntry_16 : decode cX11_removeEntry 16 = .ok (.aload_n 0, 1) := by decide +kernel
theorem dX11_removeEntry_17 : decode cX11_removeEntry 17 = .ok (.invokevirtual 112, 3) := by decide +kernel
theorem dX11_removeEntry_20 : decode cX11_removeEntry 20 = .ok (.aload_n 0, 1) := by decide +kernel
theorem dX11_removeEntry_21 : decode cX11_removeEntry 21 = .ok (.getfield 7, 3) := by decide +kernel
theorem dX11_removeEntry_24 : decode cX11_removeEntry 24 = .ok (.bipush 43, 2) := by decide +kernel
theorem dX11_removeEntry_26 : decode cX11_removeEntry 26 = .ok (.dup2, 1) := by decide +kernel
theorem dX11_removeEntry_27 : decode cX11_removeEntry 27 = .ok (.iaload, 1) := by decide +kernel
theorem dX11_removeEntry_28 : decode cX11_removeEntry 28 = .ok (.iconst 1, 1) := by decide +kernel
theorem dX11_removeEntry_29 : decode cX11_removeEntry 29 = .ok (.isub, 1) := by decide +kernel
theorem dX11_removeEntry_30 : decode cX11_removeEntry 30 = .ok (.iastore, 1) := by decide +kernel
theorem dX11_removeEntry_31 : decode cX11_removeEntry 31 = .ok (.bipush 44, 2) := by decide +kernel
theorem dX11_removeEntry_33 : decode cX11_removeEntry 33 = .ok (.iconst 2, 1) := by decide +kernel
theorem dX11_removeEntry_34 : decode cX11_removeEntry 34 = .ok (.iload_n 1, 1) := by decide +kernel
theorem dX11_removeEntry_35 : decode cX11_removeEntry 35 = .ok (.imul, 1) := by decide +kernel
theorem dX11_removeEntry_36 : decode cX11_removeEntry 36 = .ok (.iadd, 1) := by decide +kernel
theorem dX11_removeEntry_37 : decode cX11_removeEntry 37 = .ok (.istore_n 2, 1) := by decide +kernel
theorem dX11_removeEntry_38 : decode cX11_removeEntry 38 = .ok (.iload_n 2, 1) := by decide +kernel
theorem dX11_removeEntry_39 : decode cX11_removeEntry 39 = .ok (.bipush 44, 2) := by decide +kernel
theorem dX11_removeEntry_41 : decode cX11_removeEntry 41 = .ok (.iconst 2, 1) := by decide +kernel
theorem dX11_removeEntry_42 : decode cX11_removeEntry 42 = .ok (.aload_n 0, 1) := by decide +kernel
theorem dX11_removeEntry_43 : decode cX11_removeEntry 43 = .ok (.getfield 7, 3) := by decide +kernel
theorem dX11_removeEntry_46 : decode cX11_removeEntry 46 = .ok (.bipush 43, 2) := by decide +kernel
theorem dX11_removeEntry_48 : decode cX11_removeEntry 48 = .ok (.iaload, 1) := by decide +kernel
theorem dX11_removeEntry_49 : decode cX11_removeEntry 49 = .ok (.imul, 1) := by decide +kernel
theorem dX11_removeEntry_50 : decode cX11_removeEntry 50 = .ok (.iadd, 1) := by decide +kernel
theorem dX11_removeEntry_51 : decode cX11_removeEntry 51 = .ok (.if_icmp .ge 23, 3) := by decide +kernel
theorem dX11_removeEntry_54 : decode cX11_removeEntry 54 = .ok (.aload_n 0, 1) := by decide +kernel
theorem dX11_removeEntry_55 : decode cX11_removeEntry 55 = .ok (.getfield 7, 3) := by decide +kernel
theorem dX11_removeEntry_58 : decode cX11_removeEntry 58 = .ok (.iload_n 2, 1) := by decide +kernel
theorem dX11_removeEntry_59 : decode cX11_removeEntry 59 = .ok (.aload_n 0, 1) := by decide +kernel
theorem dX11_removeEntry_60 : decode cX11_removeEntry 60 = .ok (.getfield 7, 3) := by decide +kernel
theorem dX11_removeEntry_63 : decode cX11_removeEntry 63 = .ok (.iload_n 2, 1) := by decide +kernel
theorem dX11_removeEntry_64 : decode cX11_removeEntry 64 = .ok (.iconst 2, 1) := by decide +kernel
theorem dX11_removeEntry_65 : decode cX11_removeEntry 65 = .ok (.iadd, 1) := by decide +kernel
theorem dX11_removeEntry_66 : decode cX11_removeEntry 66 = .ok (.iaload, 1) := by decide +kernel
theorem dX11_removeEntry_67 : decode cX11_removeEntry 67 = .ok (.iastore, 1) := by decide +kernel
theorem dX11_removeEntry_68 : decode cX11_removeEntry 68 = .ok (.iinc 2 1, 3) := by decide +kernel
theorem dX11_removeEntry_71 : decode cX11_removeEntry 71 = .ok (.goto (-33), 3) := by decide +kernel
theorem dX11_removeEntry_74 : decode cX11_removeEntry 74 = .ok (.aload_n 0, 1) := by decide +kernel
theorem dX11_removeEntry_75 : decode cX11_removeEntry 75 = .ok (.getfield 7, 3) := by decide +kernel
theorem dX11_removeEntry_78 : decode cX11_removeEntry 78 = .ok (.bipush 43, 2) := by decide +kernel
theorem dX11_removeEntry_80 : decode cX11_removeEntry 80 = .ok (.iaload, 1) := by decide +kernel
theorem dX11_removeEntry_81 : decode cX11_removeEntry 81 = .ok (.ireturn, 1) := by decide +kernel
set_option maxRecDepth 20000 in
theorem ggX11_setSettle_X11_isEntry : GoodIn wsX11_setSettle wsX11_isEntry := goodIn_r _ [7, 8, 9, 10, 6, 11, 24, 25, 26, 27, 28, 29, 30, 31, 32, 33, 34, 35, 36, 37, 38, 39, 40] (by decide +kernel) (by decide +kernel)
set_option maxRecDepth 20000 in
theorem gX11_setSettle_X11_isEntry : GoodIn wsX11_setSettle (wsV RX11 127 RX11 yX11_isEntry wsX11_isEntry) := goodIn_app (goodIn_of _ (by decide +kernel)) ggX11_setSettle_X11_isEntry
set_option maxRecDepth 20000 in
theorem ggX11_setSettle_X11_in : GoodIn wsX11_setSettle wsX11_in := goodIn_r _ [11] (by decide +kernel) (by decide +kernel)
set_option maxRecDepth 20000 in
theorem gX11_setSettle_X11_in : GoodIn wsX11_setSettle (va_wsS RX11 40 yX11_in wsX11_in) := goodIn_app (goodIn_of _ (by decide +kernel)) ggX11_setSettle_X11_in
set_option maxRecDepth 20000 in
theorem ggX11_setSettle_X11_put : GoodIn wsX11_setSettle wsX11_put := goodIn_r _ [15, 8, 16, 17, 18, 6, 19, 20, 21, 22, 23, 24, 25, 26, 27, 28, 29, 30, 31, 32, 33, 34, 35, 36, 37, 38, 39, 40] (by decide +kernel) (by decide +kernel)
set_option maxRecDepth 20000 in
theorem gX11_setSettle_X11_put : GoodIn wsX11_setSettle (wsV RX11 119 RX11 yX11_put wsX11_put) := goodIn_app (goodIn_of _ (by decide +kernel)) ggX11_setSettle_X11_put
theorem dX11_setSettle_0 : decode cX11_setSettle 0 = .ok (.aload_n 0, 1) := by decide +kernel
theorem dX11_setSettle_1 : decode cX11_setSettle 1 = .ok (.iconst 0, 1) := by decide +kernel
theorem dX11_setSettle_2 : decode cX11_setSettle 2 = .ok (.putfield 29, 3) := by decide +kernel
theorem dX11_setSettle_5 : decode cX11_setSettle 5 = .ok (.aload_n 0, 1) := by decide +kernel
theorem dX11_setSettle_6 : decode cX11_setSettle 6 = .ok (.iload_n 1, 1) := by decide +kernel
theorem dX11_setSettle_7 : decode cX11_setSettle 7 = .ok (.invokevirtual 127, 3) := by decide +kernel
theorem dX11_setSettle_10 : decode cX11_setSettle 10 = .ok (.ifCond .eq 29, 3) := by decide +kernel
theorem dX11_setSettle_13 : decode cX11_setSettle 13 = .ok (.iload_n 2, 1) := by decide +kernel
theorem dX11_setSettle_14 : decode cX11_setSettle 14 = .ok (.iconst 0, 1) := by decide +kernel
theorem dX11_setSettle_15 : decode cX11_setSettle 15 = .ok (.bipush 7, 2) := by decide +kernel
theorem dX11_setSettle_17 : decode cX11_setSettle 17 = .ok (.invokestatic 40, 3) := by decide +kernel
theorem dX11_setSettle_20 : decode cX11_setSettle 20 = .ok (.ifCond .eq 19, 3) := by decide +kernel
theorem dX11_setSettle_23 : decode cX11_setSettle 23 = .ok (.aload_n 0, 1) := by decide +kernel
theorem dX11_setSettle_24 : decode cX11_setSettle 24 = .ok (.bipush 44, 2) := by decide +kernel
theorem dX11_setSettle_26 : decode cX11_setSettle 26 = .ok (.iconst 2, 1) := by decide +kernel
theorem dX11_setSettle_27 : decode cX11_setSettle 27 = .ok (.iload_n 1, 1) := by decide +kernel
theorem dX11_setSettle_28 : decode cX11_setSettle 28 = .ok (.imul, 1) := by decide +kernel
theorem dX11_setSettle_29 : decode cX11_setSettle 29 = .ok (.iadd, 1) := by decide +kernel
theorem dX11_setSettle_30 : decode cX11_setSettle 30 = .ok (.iconst 1, 1) := by decide +kernel
theorem dX11_setSettle_31 : decode cX11_setSettle 31 = .ok (.iadd, 1) := by decide +kernel
theorem dX11_setSettle_32 : decode cX11_setSettle 32 = .ok (.iload_n 2, 1) := by decide +kernel
theorem dX11_setSettle_33 : decode cX11_setSettle 33 = .ok (.invokevirtual 119, 3) := by decide +kernel
theorem dX11_setSettle_36 : decode cX11_setSettle 36 = .ok (.goto 5, 3) := by decide +kernel
theorem dX11_setSettle_39 : decode cX11_setSettle 39 = .ok (.ldc 111, 2) := by decide +kernel
theorem dX11_setSettle_41 : decode cX11_setSettle 41 = .ok (.ireturn, 1) := by decide +kernel
set_option maxRecDepth 20000 in
theorem ggX11_keyOf_X11_placeOf : GoodIn wsX11_keyOf wsX11_placeOf := goodIn_r _ [6, 1, 22, 23, 24, 25, 26, 27, 28, 29, 30, 31, 32, 33, 34, 35, 36, 37, 38] (by decide +kernel) (by decide +kernel)
set_option maxRecDepth 20000 in
theorem gX11_keyOf_X11_placeOf : GoodIn wsX11_keyOf (wsV RX11 89 RX11 yX11_placeOf wsX11_placeOf) := goodIn_app (goodIn_of _ (by decide +kernel)) ggX11_keyOf_X11_placeOf
set_option maxRecDepth 20000 in
theorem ggX11_keyOf_X11_of : GoodIn wsX11_keyOf wsX11_of := goodIn_r _ [10, 1, 22, 23, 24, 25, 26, 27, 28, 29, 30, 31, 32, 33, 34, 35, 36, 37, 38] (by decide +kernel) (by decide +kernel)
set_option maxRecDepth 20000 in
theorem gX11_keyOf_X11_of : GoodIn wsX11_keyOf (wsV RX11 44 RX11 yX11_of wsX11_of) := goodIn_app (goodIn_of _ (by decide +kernel)) ggX11_keyOf_X11_of
set_option maxRecDepth 20000 in
theorem ggX11_keyOf_X11_valueOf : GoodIn wsX11_keyOf wsX11_valueOf := goodIn_r _ [14, 1, 15, 16, 17, 5, 18, 7, 8, 9, 10, 19, 20, 21, 22, 23, 24, 25, 26, 27, 28, 29, 30, 31, 32, 33, 34, 35, 36, 37, 38] (by decide +kernel) (by decide +kernel)
set_option maxRecDepth 20000 in
theorem gX11_keyOf_X11_valueOf : GoodIn wsX11_keyOf (wsV RX11 54 RX11 yX11_valueOf wsX11_valueOf) := goodIn_app (goodIn_of _ (by decide +kernel)) ggX11_keyOf_X11_valueOf
theorem dX11_keyOf_0 : decode cX11_keyOf 0 = .ok (.aload_n 0, 1) := by decide +kernel
theorem dX11_keyOf_1 : decode cX11_keyOf 1 = .ok (.iload_n 1, 1) := by decide +kernel
theorem dX11_keyOf_2 : decode cX11_keyOf 2 = .ok (.invokevirtual 89, 3) := by decide +kernel
theorem dX11_keyOf_5 : decode cX11_keyOf 5 = .ok (.istore_n 3, 1) := by decide +kernel
theorem dX11_keyOf_6 : decode cX11_keyOf 6 = .ok (.iload_n 2, 1) := by decide +kernel
theorem dX11_keyOf_7 : decode cX11_keyOf 7 = .ok (.ifCond .ne 7, 3) := by decide +kernel
theorem dX11_keyOf_10 : decode cX11_keyOf 10 = .ok (.iload_n 3, 1) := by decide +kernel
theorem dX11_keyOf_11 : decode cX11_keyOf 11 = .ok (.goto 39, 3) := by decide +kernel
theorem dX11_keyOf_14 : decode cX11_keyOf 14 = .ok (.iload_n 2, 1) := by decide +kernel
theorem dX11_keyOf_15 : decode cX11_keyOf 15 = .ok (.iconst 1, 1) := by decide +kernel
theorem dX11_keyOf_16 : decode cX11_keyOf 16 = .ok (.if_icmp .ne 22, 3) := by decide +kernel
theorem dX11_keyOf_19 : decode cX11_keyOf 19 = .ok (.iload_n 3, 1) := by decide +kernel
theorem dX11_keyOf_20 : decode cX11_keyOf 20 = .ok (.bipush 8, 2) := by decide +kernel
theorem dX11_keyOf_22 : decode cX11_keyOf 22 = .ok (.if_icmp .ge 12, 3) := by decide +kernel
theorem dX11_keyOf_25 : decode cX11_keyOf 25 = .ok (.aload_n 0, 1) := by decide +kernel
theorem dX11_keyOf_26 : decode cX11_keyOf 26 = .ok (.iload_n 3, 1) := by decide +kernel
theorem dX11_keyOf_27 : decode cX11_keyOf 27 = .ok (.iconst 4, 1) := by decide +kernel
theorem dX11_keyOf_28 : decode cX11_keyOf 28 = .ok (.invokevirtual 44, 3) := by decide +kernel
theorem dX11_keyOf_31 : decode cX11_keyOf 31 = .ok (.goto 19, 3) := by decide +kernel
theorem dX11_keyOf_34 : decode cX11_keyOf 34 = .ok (.iconst 0, 1) := by decide +kernel
theorem dX11_keyOf_35 : decode cX11_keyOf 35 = .ok (.goto 15, 3) := by decide +kernel
theorem dX11_keyOf_38 : decode cX11_keyOf 38 = .ok (.aload_n 0, 1) := by decide +kernel
theorem dX11_keyOf_39 : decode cX11_keyOf 39 = .ok (.iload_n 3, 1) := by decide +kernel
theorem dX11_keyOf_40 : decode cX11_keyOf 40 = .ok (.aload_n 0, 1) := by decide +kernel
theorem dX11_keyOf_41 : decode cX11_keyOf 41 = .ok (.getfield 7, 3) := by decide +kernel
theorem dX11_keyOf_44 : decode cX11_keyOf 44 = .ok (.bipush 76, 2) := by decide +kernel
theorem dX11_keyOf_46 : decode cX11_keyOf 46 = .ok (.iaload, 1) := by decide +kernel
theorem dX11_keyOf_47 : decode cX11_keyOf 47 = .ok (.invokevirtual 54, 3) := by decide +kernel
theorem dX11_keyOf_50 : decode cX11_keyOf 50 = .ok (.ireturn, 1) := by decide +kernel
theorem dX11_swap_0 : decode cX11_swap 0 = .ok (.iconst 0, 1) := by decide +kernel
theorem dX11_swap_1 : decode cX11_swap 1 = .ok (.istore_n 3, 1) := by decide +kernel
theorem dX11_swap_2 : decode cX11_swap 2 = .ok (.iload_n 3, 1) := by decide +kernel
theorem dX11_swap_3 : decode cX11_swap 3 = .ok (.iconst 2, 1) := by decide +kernel
theorem dX11_swap_4 : decode cX11_swap 4 = .ok (.if_icmp .ge 65, 3) := by decide +kernel
theorem dX11_swap_7 : decode cX11_swap 7 = .ok (.aload_n 0, 1) := by decide +kernel
theorem dX11_swap_8 : decode cX11_swap 8 = .ok (.getfield 7, 3) := by decide +kernel
theorem dX11_swap_11 : decode cX11_swap 11 = .ok (.bipush 44, 2) := by decide +kernel
theorem dX11_swap_13 : decode cX11_swap 13 = .ok (.iconst 2, 1) := by decide +kernel
theorem dX11_swap_14 : decode cX11_swap 14 = .ok (.iload_n 1, 1) := by decide +kernel
theorem dX11_swap_15 : decode cX11_swap 15 = .ok (.imul, 1) := by decide +kernel
theorem dX11_swap_16 : decode cX11_swap 16 = .ok (.iadd, 1) := by decide +kernel
theorem dX11_swap_17 : decode cX11_swap 17 = .ok (.iload_n 3, 1) := by decide +kernel
theorem dX11_swap_18 : decode cX11_swap 18 = .ok (.iadd, 1) := by decide +kernel
theorem dX11_swap_19 : decode cX11_swap 19 = .ok (.iaload, 1) := by decide +kernel
theorem dX11_swap_20 : decode cX11_swap 20 = .ok (.istore 4, 2) := by decide +kernel
theorem dX11_swap_22 : decode cX11_swap 22 = .ok (.aload_n 0, 1) := by decide +kernel
theorem dX11_swap_23 : decode cX11_swap 23 = .ok (.getfield 7, 3) := by decide +kernel
theorem dX11_swap_26 : decode cX11_swap 26 = .ok (.bipush 44, 2) := by decide +kernel
theorem dX11_swap_28 : decode cX11_swap 28 = .ok (.iconst 2, 1) := by decide +kernel
theorem dX11_swap_29 : decode cX11_swap 29 = .ok (.iload_n 1, 1) := by decide +kernel
theorem dX11_swap_30 : decode cX11_swap 30 = .ok (.imul, 1) := by decide +kernel
theorem dX11_swap_31 : decode cX11_swap 31 = .ok (.iadd, 1) := by decide +kernel
theorem dX11_swap_32 : decode cX11_swap 32 = .ok (.iload_n 3, 1) := by decide +kernel
theorem dX11_swap_33 : decode cX11_swap 33 = .ok (.iadd, 1) := by decide +kernel
theorem dX11_swap_34 : decode cX11_swap 34 = .ok (.aload_n 0, 1) := by decide +kernel
theorem dX11_swap_35 : decode cX11_swap 35 = .ok (.getfield 7, 3) := by decide +kernel
theorem dX11_swap_38 : decode cX11_swap 38 = .ok (.bipush 44, 2) := by decide +kernel
theorem dX11_swap_40 : decode cX11_swap 40 = .ok (.iconst 2, 1) := by decide +kernel
theorem dX11_swap_41 : decode cX11_swap 41 = .ok (.iload_n 2, 1) := by decide +kernel
theorem dX11_swap_42 : decode cX11_swap 42 = .ok (.imul, 1) := by decide +kernel
theorem dX11_swap_43 : decode cX11_swap 43 = .ok (.iadd, 1) := by decide +kernel
theorem dX11_swap_44 : decode cX11_swap 44 = .ok (.iload_n 3, 1) := by decide +kernel
theorem dX11_swap_45 : decode cX11_swap 45 = .ok (.iadd, 1) := by decide +kernel
theorem dX11_swap_46 : decode cX11_swap 46 = .ok (.iaload, 1) := by decide +kernel
theorem dX11_swap_47 : decode cX11_swap 47 = .ok (.iastore, 1) := by decide +kernel
theorem dX11_swap_48 : decode cX11_swap 48 = .ok (.aload_n 0, 1) := by decide +kernel
theorem dX11_swap_49 : decode cX11_swap 49 = .ok (.getfield 7, 3) := by decide +kernel
theorem dX11_swap_52 : decode cX11_swap 52 = .ok (.bipush 44, 2) := by decide +kernel
theorem dX11_swap_54 : decode cX11_swap 54 = .ok (.iconst 2, 1) := by decide +kernel
theorem dX11_swap_55 : decode cX11_swap 55 = .ok (.iload_n 2, 1) := by decide +kernel
theorem dX11_swap_56 : decode cX11_swap 56 = .ok (.imul, 1) := by decide +kernel
theorem dX11_swap_57 : decode cX11_swap 57 = .ok (.iadd, 1) := by decide +kernel
theorem dX11_swap_58 : decode cX11_swap 58 = .ok (.iload_n 3, 1) := by decide +kernel
theorem dX11_swap_59 : decode cX11_swap 59 = .ok (.iadd, 1) := by decide +kernel
theorem dX11_swap_60 : decode cX11_swap 60 = .ok (.iload 4, 2) := by decide +kernel
theorem dX11_swap_62 : decode cX11_swap 62 = .ok (.iastore, 1) := by decide +kernel
theorem dX11_swap_63 : decode cX11_swap 63 = .ok (.iinc 3 1, 3) := by decide +kernel
theorem dX11_swap_66 : decode cX11_swap 66 = .ok (.goto (-64), 3) := by decide +kernel
theorem dX11_swap_69 : decode cX11_swap 69 = .ok (.aload_n 0, 1) := by decide +kernel
theorem dX11_swap_70 : decode cX11_swap 70 = .ok (.getfield 26, 3) := by decide +kernel
theorem dX11_swap_73 : decode cX11_swap 73 = .ok (.iload_n 1, 1) := by decide +kernel
theorem dX11_swap_74 : decode cX11_swap 74 = .ok (.iaload, 1) := by decide +kernel
theorem dX11_swap_75 : decode cX11_swap 75 = .ok (.istore_n 3, 1) := by decide +kernel
theorem dX11_swap_76 : decode cX11_swap 76 = .ok (.aload_n 0, 1) := by decide +kernel
theorem dX11_swap_77 : decode cX11_swap 77 = .ok (.getfield 26, 3) := by decide +kernel
theorem dX11_swap_80 : decode cX11_swap 80 = .ok (.iload_n 1, 1) := by decide +kernel
theorem dX11_swap_81 : decode cX11_swap 81 = .ok (.aload_n 0, 1) := by decide +kernel
theorem dX11_swap_82 : decode cX11_swap 82 = .ok (.getfield 26, 3) := by decide +kernel
theorem dX11_swap_85 : decode cX11_swap 85 = .ok (.iload_n 2, 1) := by decide +kernel
theorem dX11_swap_86 : decode cX11_swap 86 = .ok (.iaload, 1) := by decide +kernel
theorem dX11_swap_87 : decode cX11_swap 87 = .ok (.iastore, 1) := by decide +kernel
theorem dX11_swap_88 : decode cX11_swap 88 = .ok (.aload_n 0, 1) := by decide +kernel
theorem dX11_swap_89 : decode cX11_swap 89 = .ok (.getfield 26, 3) := by decide +kernel
theorem dX11_swap_92 : decode cX11_swap 92 = .ok (.iload_n 2, 1) := by decide +kernel
theorem dX11_swap_93 : decode cX11_swap 93 = .ok (.iload_n 3, 1) := by decide +kernel
theorem dX11_swap_94 : decode cX11_swap 94 = .ok (.iastore, 1) := by decide +kernel
theorem dX11_swap_95 : decode cX11_swap 95 = .ok (.return_, 1) := by decide +kernel
set_option maxRecDepth 20000 in
theorem ggX11_orderBy_X11_swap : GoodIn wsX11_orderBy wsX11_swap := goodIn_r _ [7, 1, 2, 31, 32, 33, 34, 35, 36, 37, 38, 39, 40, 41, 42, 43, 44, 45, 46, 47] (by decide +kernel) (by decide +kernel)
set_option maxRecDepth 20000 in
theorem gX11_orderBy_X11_swap : GoodIn wsX11_orderBy (wsV RX11 130 RX11 yX11_swap wsX11_swap) := goodIn_app (goodIn_of _ (by decide +kernel)) ggX11_orderBy_X11_swap
set_option maxRecDepth 20000 in
theorem ggX11_orderBy_X11_keyOf : GoodIn wsX11_orderBy wsX11_keyOf := goodIn_r _ [11, 1, 12, 13, 14, 6, 15, 16, 17, 18, 19, 20, 21, 22, 23, 24, 25, 26, 27, 28, 29, 30, 31, 32, 33, 34, 35, 36, 37, 38, 39, 40, 41, 42, 43, 44, 45, 46, 47] (by decide +kernel) (by decide +kernel)
set_option maxRecDepth 20000 in
theorem gX11_orderBy_X11_keyOf : GoodIn wsX11_orderBy (wsV RX11 133 RX11 yX11_keyOf wsX11_keyOf) := goodIn_app (goodIn_of _ (by decide +kernel)) ggX11_orderBy_X11_keyOf
theorem dX11_orderBy_0 : decode cX11_orderBy 0 = .ok (.aload_n 0, 1) := by decide +kernel
theorem dX11_orderBy_1 : decode cX11_orderBy 1 = .ok (.getfield 7, 3) := by decide +kernel
theorem dX11_orderBy_4 : decode cX11_orderBy 4 = .ok (.bipush 43, 2) := by decide +kernel
theorem dX11_orderBy_6 : decode cX11_orderBy 6 = .ok (.iaload, 1) := by decide +kernel
theorem dX11_orderBy_7 : decode cX11_orderBy 7 = .ok (.istore_n 2, 1) := by decide +kernel
theorem dX11_orderBy_8 : decode cX11_orderBy 8 = .ok (.iconst 0, 1) := by decide +kernel
theorem dX11_orderBy_9 : decode cX11_orderBy 9 = .ok (.istore_n 3, 1) := by decide +kernel
theorem dX11_orderBy_10 : decode cX11_orderBy 10 = .ok (.iload_n 3, 1) := by decide +kernel
theorem dX11_orderBy_11 : decode cX11_orderBy 11 = .ok (.iload_n 2, 1) := by decide +kernel
theorem dX11_orderBy_12 : decode cX11_orderBy 12 = .ok (.if_icmp .ge 16, 3) := by decide +kernel
theorem dX11_orderBy_15 : decode cX11_orderBy 15 = .ok (.aload_n 0, 1) := by decide +kernel
theorem dX11_orderBy_16 : decode cX11_orderBy 16 = .ok (.getfield 26, 3) := by decide +kernel
theorem dX11_orderBy_19 : decode cX11_orderBy 19 = .ok (.iload_n 3, 1) := by decide +kernel
theorem dX11_orderBy_20 : decode cX11_orderBy 20 = .ok (.iload_n 3, 1) := by decide +kernel
theorem dX11_orderBy_21 : decode cX11_orderBy 21 = .ok (.iastore, 1) := by decide +kernel
theorem dX11_orderBy_22 : decode cX11_orderBy 22 = .ok (.iinc 3 1, 3) := by decide +kernel
theorem dX11_orderBy_25 : decode cX11_orderBy 25 = .ok (.goto (-15), 3) := by decide +kernel
theorem dX11_orderBy_28 : decode cX11_orderBy 28 = .ok (.iconst 0, 1) := by decide +kernel
theorem dX11_orderBy_29 : decode cX11_orderBy 29 = .ok (.istore_n 3, 1) := by decide +kernel
theorem dX11_orderBy_30 : decode cX11_orderBy 30 = .ok (.iload_n 3, 1) := by decide +kernel
theorem dX11_orderBy_31 : decode cX11_orderBy 31 = .ok (.iload_n 2, 1) := by decide +kernel
theorem dX11_orderBy_32 : decode cX11_orderBy 32 = .ok (.iconst 2, 1) := by decide +kernel
theorem dX11_orderBy_33 : decode cX11_orderBy 33 = .ok (.idiv, 1) := by decide +kernel
theorem dX11_orderBy_34 : decode cX11_orderBy 34 = .ok (.if_icmp .ge 24, 3) := by decide +kernel
theorem dX11_orderBy_37 : decode cX11_orderBy 37 = .ok (.iload_n 1, 1) := by decide +kernel
theorem dX11_orderBy_38 : decode cX11_orderBy 38 = .ok (.iconst 3, 1) := by decide +kernel
theorem dX11_orderBy_39 : decode cX11_orderBy 39 = .ok (.if_icmp .ne 19, 3) := by decide +kernel
theorem dX11_orderBy_42 : decode cX11_orderBy 42 = .ok (.aload_n 0, 1) := by decide +kernel
theorem dX11_orderBy_43 : decode cX11_orderBy 43 = .ok (.iload_n 3, 1) := by decide +kernel
theorem dX11_orderBy_44 : decode cX11_orderBy 44 = .ok (.iload_n 2, 1) := by decide +kernel
theorem dX11_orderBy_45 : decode cX11_orderBy 45 = .ok (.iconst 1, 1) := by decide +kernel
theorem dX11_orderBy_46 : decode cX11_orderBy 46 = .ok (.isub, 1) := by decide +kernel
theorem dX11_orderBy_47 : decode cX11_orderBy 47 = .ok (.iload_n 3, 1) := by decide +kernel
theorem dX11_orderBy_48 : decode cX11_orderBy 48 = .ok (.isub, 1) := by decide +kernel
theorem dX11_orderBy_49 : decode cX11_orderBy 49 = .ok (.invokevirtual 130, 3) := by decide +kernel
theorem dX11_orderBy_52 : decode cX11_orderBy 52 = .ok (.iinc 3 1, 3) := by decide +kernel
theorem dX11_orderBy_55 : decode cX11_orderBy 55 = .ok (.goto (-25), 3) := by decide +kernel
theorem dX11_orderBy_58 : decode cX11_orderBy 58 = .ok (.iconst 1, 1) := by decide +kernel
theorem dX11_orderBy_59 : decode cX11_orderBy 59 = .ok (.istore_n 3, 1) := by decide +kernel
theorem dX11_orderBy_60 : decode cX11_orderBy 60 = .ok (.iload_n 3, 1) := by decide +kernel
theorem dX11_orderBy_61 : decode cX11_orderBy 61 = .ok (.iload_n 2, 1) := by decide +kernel
theorem dX11_orderBy_62 : decode cX11_orderBy 62 = .ok (.if_icmp .ge 57, 3) := by decide +kernel
theorem dX11_orderBy_65 : decode cX11_orderBy 65 = .ok (.iload_n 1, 1) := by decide +kernel
theorem dX11_orderBy_66 : decode cX11_orderBy 66 = .ok (.iconst 3, 1) := by decide +kernel
theorem dX11_orderBy_67 : decode cX11_orderBy 67 = .ok (.if_icmp .ge 52, 3) := by decide +kernel
theorem dX11_orderBy_70 : decode cX11_orderBy 70 = .ok (.iload_n 3, 1) := by decide +kernel
theorem dX11_orderBy_71 : decode cX11_orderBy 71 = .ok (.istore 4, 2) := by decide +kernel
theorem dX11_orderBy_73 : decode cX11_orderBy 73 = .ok (.iload 4, 2) := by decide +kernel
theorem dX11_orderBy_75 : decode cX11_orderBy 75 = .ok (.ifCond .le 38, 3) := by decide +kernel
theorem dX11_orderBy_78 : decode cX11_orderBy 78 = .ok (.aload_n 0, 1) := by decide +kernel
theorem dX11_orderBy_79 : decode cX11_orderBy 79 = .ok (.iload 4, 2) := by decide +kernel
theorem dX11_orderBy_81 : decode cX11_orderBy 81 = .ok (.iconst 1, 1) := by decide +kernel
theorem dX11_orderBy_82 : decode cX11_orderBy 82 = .ok (.isub, 1) := by decide +kernel
theorem dX11_orderBy_83 : decode cX11_orderBy 83 = .ok (.iload_n 1, 1) := by decide +kernel
theorem dX11_orderBy_84 : decode cX11_orderBy 84 = .ok (.invokevirtual 133, 3) := by decide +kernel
theorem dX11_orderBy_87 : decode cX11_orderBy 87 = .ok (.aload_n 0, 1) := by decide +kernel
theorem dX11_orderBy_88 : decode cX11_orderBy 88 = .ok (.iload 4, 2) := by decide +kernel
theorem dX11_orderBy_90 : decode cX11_orderBy 90 = .ok (.iload_n 1, 1) := by decide +kernel
theorem dX11_orderBy_91 : decode cX11_orderBy 91 = .ok (.invokevirtual 133, 3) := by decide +kernel
theorem dX11_orderBy_94 : decode cX11_orderBy 94 = .ok (.if_icmp .le 19, 3) := by decide +kernel
theorem dX11_orderBy_97 : decode cX11_orderBy 97 = .ok (.aload_n 0, 1) := by decide +kernel
theorem dX11_orderBy_98 : decode cX11_orderBy 98 = .ok (.iload 4, 2) := by decide +kernel
theorem dX11_orderBy_100 : decode cX11_orderBy 100 = .ok (.iconst 1, 1) := by decide +kernel
theorem dX11_orderBy_101 : decode cX11_orderBy 101 = .ok (.isub, 1) := by decide +kernel
theorem dX11_orderBy_102 : decode cX11_orderBy 102 = .ok (.iload 4, 2) := by decide +kernel
theorem dX11_orderBy_104 : decode cX11_orderBy 104 = .ok (.invokevirtual 130, 3) := by decide +kernel
theorem dX11_orderBy_107 : decode cX11_orderBy 107 = .ok (.iinc 4 (-1), 3) := by decide +kernel
theorem dX11_orderBy_110 : decode cX11_orderBy 110 = .ok (.goto (-37), 3) := by decide +kernel
theorem dX11_orderBy_113 : decode cX11_orderBy 113 = .ok (.iinc 3 1, 3) := by decide +kernel
theorem dX11_orderBy_116 : decode cX11_orderBy 116 = .ok (.goto (-56), 3) := by decide +kernel
theorem dX11_orderBy_119 : decode cX11_orderBy 119 = .ok (.iconst 0, 1) := by decide +kernel
theorem dX11_orderBy_120 : decode cX11_orderBy 120 = .ok (.istore_n 3, 1) := by decide +kernel
theorem dX11_orderBy_121 : decode cX11_orderBy 121 = .ok (.iconst 0, 1) := by decide +kernel
theorem dX11_orderBy_122 : decode cX11_orderBy 122 = .ok (.istore 4, 2) := by decide +kernel
theorem dX11_orderBy_124 : decode cX11_orderBy 124 = .ok (.iload 4, 2) := by decide +kernel
theorem dX11_orderBy_126 : decode cX11_orderBy 126 = .ok (.iload_n 2, 1) := by decide +kernel
theorem dX11_orderBy_127 : decode cX11_orderBy 127 = .ok (.if_icmp .ge 29, 3) := by decide +kernel
theorem dX11_orderBy_130 : decode cX11_orderBy 130 = .ok (.iload_n 3, 1) := by decide +kernel
theorem dX11_orderBy_131 : decode cX11_orderBy 131 = .ok (.aload_n 0, 1) := by decide +kernel
theorem dX11_orderBy_132 : decode cX11_orderBy 132 = .ok (.getfield 26, 3) := by decide +kernel
theorem dX11_orderBy_135 : decode cX11_orderBy 135 = .ok (.iload 4, 2) := by decide +kernel
theorem dX11_orderBy_137 : decode cX11_orderBy 137 = .ok (.iaload, 1) := by decide +kernel
theorem dX11_orderBy_138 : decode cX11_orderBy 138 = .ok (.iload 4, 2) := by decide +kernel
theorem dX11_orderBy_140 : decode cX11_orderBy 140 = .ok (.if_icmp .eq 7, 3) := by decide +kernel
theorem dX11_orderBy_143 : decode cX11_orderBy 143 = .ok (.iconst 1, 1) := by decide +kernel
theorem dX11_orderBy_144 : decode cX11_orderBy 144 = .ok (.goto 4, 3) := by decide +kernel
theorem dX11_orderBy_147 : decode cX11_orderBy 147 = .ok (.iconst 0, 1) := by decide +kernel
theorem dX11_orderBy_148 : decode cX11_orderBy 148 = .ok (.iadd, 1) := by decide +kernel
theorem dX11_orderBy_149 : decode cX11_orderBy 149 = .ok (.istore_n 3, 1) := by decide +kernel
theorem dX11_orderBy_150 : decode cX11_orderBy 150 = .ok (.iinc 4 1, 3) := by decide +kernel
theorem dX11_orderBy_153 : decode cX11_orderBy 153 = .ok (.goto (-29), 3) := by decide +kernel
theorem dX11_orderBy_156 : decode cX11_orderBy 156 = .ok (.iload_n 3, 1) := by decide +kernel
theorem dX11_orderBy_157 : decode cX11_orderBy 157 = .ok (.ireturn, 1) := by decide +kernel
set_option maxRecDepth 20000 in
theorem ggX11_order_X11_in : GoodIn wsX11_order wsX11_in := goodIn_r _ [6] (by decide +kernel) (by decide +kernel)
set_option maxRecDepth 20000 in
theorem gX11_order_X11_in : GoodIn wsX11_order (va_wsS RX11 40 yX11_in wsX11_in) := goodIn_app (goodIn_of _ (by decide +kernel)) ggX11_order_X11_in
set_option maxRecDepth 20000 in
theorem ggX11_order_X11_act : GoodIn wsX11_order wsX11_act := goodIn_r _ [10, 11, 12, 13, 14, 15, 48, 49, 50, 51, 52, 53, 54, 55, 56, 57, 58, 59, 60, 61, 62, 63, 64] (by decide +kernel) (by decide +kernel)
set_option maxRecDepth 20000 in
theorem gX11_order_X11_act : GoodIn wsX11_order (wsV RX11 112 RX11 yX11_act wsX11_act) := goodIn_app (goodIn_of _ (by decide +kernel)) ggX11_order_X11_act
set_option maxRecDepth 20000 in
theorem ggX11_order_X11_orderBy : GoodIn wsX11_order wsX11_orderBy := goodIn_r _ [19, 14, 20, 21, 22, 23, 5, 24, 25, 26, 27, 28, 29, 30, 31, 32, 33, 34, 35, 36, 37, 38, 39, 40, 41, 42, 43, 44, 45, 46, 47, 48, 49, 50, 51, 52, 53, 54, 55, 56, 57, 58, 59, 60, 61, 62, 63, 64] (by decide +kernel) (by decide +kernel)
set_option maxRecDepth 20000 in
theorem gX11_order_X11_orderBy : GoodIn wsX11_order (wsV RX11 136 RX11 yX11_orderBy wsX11_orderBy) := goodIn_app (goodIn_of _ (by decide +kernel)) ggX11_order_X11_orderBy
theorem dX11_order_0 : decode cX11_order 0 = .ok (.aload_n 0, 1) := by decide +kernel
theorem dX11_order_1 : decode cX11_order 1 = .ok (.iconst 0, 1) := by decide +kernel
theorem dX11_order_2 : decode cX11_order 2 = .ok (.putfield 29, 3) := by decide +kernel
theorem dX11_order_5 : decode cX11_order 5 = .ok (.iload_n 1, 1) := by decide +kernel
theorem dX11_order_6 : decode cX11_order 6 = .ok (.iconst 0, 1) := by decide +kernel
theorem dX11_order_7 : decode cX11_order 7 = .ok (.iconst 3, 1) := by decide +kernel
theorem dX11_order_8 : decode cX11_order 8 = .ok (.invokestatic 40, 3) := by decide +kernel
theorem dX11_order_11 : decode cX11_order 11 = .ok (.ifCond .ne 6, 3) := by decide +kernel
theorem dX11_order_14 : decode cX11_order 14 = .ok (.ldc 111, 2) := by decide +kernel
theorem dX11_order_16 : decode cX11_order 16 = .ok (.ireturn, 1) := by decide +kernel
theorem dX11_order_17 : decode cX11_order 17 = .ok (.aload_n 0, 1) := by decide +kernel
theorem dX11_order_18 : decode cX11_order 18 = .ok (.invokevirtual 112, 3) := by decide +kernel
theorem dX11_order_21 : decode cX11_order 21 = .ok (.aload_n 0, 1) := by decide +kernel
theorem dX11_order_22 : decode cX11_order 22 = .ok (.iload_n 1, 1) := by decide +kernel
theorem dX11_order_23 : decode cX11_order 23 = .ok (.invokevirtual 136, 3) := by decide +kernel
theorem dX11_order_26 : decode cX11_order 26 = .ok (.ireturn, 1) := by decide +kernel
set_option maxRecDepth 20000 in
theorem ggX11_slots_X11_settleOf : GoodIn wsX11_slots wsX11_settleOf := goodIn_r _ [6, 1, 7, 8, 9, 10, 11, 12, 13, 14, 15, 16, 17, 18, 19, 20, 21, 22, 23] (by decide +kernel) (by decide +kernel)
set_option maxRecDepth 20000 in
theorem gX11_slots_X11_settleOf : GoodIn wsX11_slots (wsV RX11 93 RX11 yX11_settleOf wsX11_settleOf) := goodIn_app (goodIn_of _ (by decide +kernel)) ggX11_slots_X11_settleOf
theorem dX11_slots_0 : decode cX11_slots 0 = .ok (.iconst 0, 1) := by decide +kernel
theorem dX11_slots_1 : decode cX11_slots 1 = .ok (.istore_n 1, 1) := by decide +kernel
theorem dX11_slots_2 : decode cX11_slots 2 = .ok (.iconst 0, 1) := by decide +kernel
theorem dX11_slots_3 : decode cX11_slots 3 = .ok (.istore_n 2, 1) := by decide +kernel
theorem dX11_slots_4 : decode cX11_slots 4 = .ok (.iload_n 2, 1) := by decide +kernel
theorem dX11_slots_5 : decode cX11_slots 5 = .ok (.aload_n 0, 1) := by decide +kernel
theorem dX11_slots_6 : decode cX11_slots 6 = .ok (.getfield 7, 3) := by decide +kernel
theorem dX11_slots_9 : decode cX11_slots 9 = .ok (.bipush 43, 2) := by decide +kernel
theorem dX11_slots_11 : decode cX11_slots 11 = .ok (.iaload, 1) := by decide +kernel
theorem dX11_slots_12 : decode cX11_slots 12 = .ok (.if_icmp .ge 19, 3) := by decide +kernel
theorem dX11_slots_15 : decode cX11_slots 15 = .ok (.iload_n 1, 1) := by decide +kernel
theorem dX11_slots_16 : decode cX11_slots 16 = .ok (.aload_n 0, 1) := by decide +kernel
theorem dX11_slots_17 : decode cX11_slots 17 = .ok (.iload_n 2, 1) := by decide +kernel
theorem dX11_slots_18 : decode cX11_slots 18 = .ok (.invokevirtual 93, 3) := by decide +kernel
theorem dX11_slots_21 : decode cX11_slots 21 = .ok (.iconst 1, 1) := by decide +kernel
theorem dX11_slots_22 : decode cX11_slots 22 = .ok (.iadd, 1) := by decide +kernel
theorem dX11_slots_23 : decode cX11_slots 23 = .ok (.iadd, 1) := by decide +kernel
theorem dX11_slots_24 : decode cX11_slots 24 = .ok (.istore_n 1, 1) := by decide +kernel
theorem dX11_slots_25 : decode cX11_slots 25 = .ok (.iinc 2 1, 3) := by decide +kernel
theorem dX11_slots_28 : decode cX11_slots 28 = .ok (.goto (-24), 3) := by decide +kernel
theorem dX11_slots_31 : decode cX11_slots 31 = .ok (.iload_n 1, 1) := by decide +kernel
theorem dX11_slots_32 : decode cX11_slots 32 = .ok (.ireturn, 1) := by decide +kernel
set_option maxRecDepth 20000 in
theorem ggX11_note_X11_size : GoodIn wsX11_note wsX11_size := goodIn_r _ [9] (by decide +kernel) (by decide +kernel)
set_option maxRecDepth 20000 in
theorem gX11_note_X11_size : GoodIn wsX11_note (va_wsS RX11 100 yX11_size wsX11_size) := goodIn_app (goodIn_of _ (by decide +kernel)) ggX11_note_X11_size
theorem dX11_note_0 : decode cX11_note 0 = .ok (.aload_n 0, 1) := by decide +kernel
theorem dX11_note_1 : decode cX11_note 1 = .ok (.getfield 7, 3) := by decide +kernel
theorem dX11_note_4 : decode cX11_note 4 = .ok (.bipush 77, 2) := by decide +kernel
theorem dX11_note_6 : decode cX11_note 6 = .ok (.iaload, 1) := by decide +kernel
theorem dX11_note_7 : decode cX11_note 7 = .ok (.bipush 32, 2) := by decide +kernel
theorem dX11_note_9 : decode cX11_note 9 = .ok (.if_icmp .ne 44, 3) := by decide +kernel
theorem dX11_note_12 : decode cX11_note 12 = .ok (.bipush 94, 2) := by decide +kernel
theorem dX11_note_14 : decode cX11_note 14 = .ok (.istore_n 3, 1) := by decide +kernel
theorem dX11_note_15 : decode cX11_note 15 = .ok (.iload_n 3, 1) := by decide +kernel
theorem dX11_note_16 : decode cX11_note 16 = .ok (.sipush 249, 3) := by decide +kernel
theorem dX11_note_19 : decode cX11_note 19 = .ok (.if_icmp .ge 23, 3) := by decide +kernel
theorem dX11_note_22 : decode cX11_note 22 = .ok (.aload_n 0, 1) := by decide +kernel
theorem dX11_note_23 : decode cX11_note 23 = .ok (.getfield 7, 3) := by decide +kernel
theorem dX11_note_26 : decode cX11_note 26 = .ok (.iload_n 3, 1) := by decide +kernel
theorem dX11_note_27 : decode cX11_note 27 = .ok (.aload_n 0, 1) := by decide +kernel
theorem dX11_note_28 : decode cX11_note 28 = .ok (.getfield 7, 3) := by decide +kernel
theorem dX11_note_31 : decode cX11_note 31 = .ok (.iload_n 3, 1) := by decide +kernel
theorem dX11_note_32 : decode cX11_note 32 = .ok (.iconst 5, 1) := by decide +kernel
theorem dX11_note_33 : decode cX11_note 33 = .ok (.iadd, 1) := by decide +kernel
theorem dX11_note_34 : decode cX11_note 34 = .ok (.iaload, 1) := by decide +kernel
theorem dX11_note_35 : decode cX11_note 35 = .ok (.iastore, 1) := by decide +kernel
theorem dX11_note_36 : decode cX11_note 36 = .ok (.iinc 3 1, 3) := by decide +kernel
theorem dX11_note_39 : decode cX11_note 39 = .ok (.goto (-24), 3) := by decide +kernel
theorem dX11_note_42 : decode cX11_note 42 = .ok (.aload_n 0, 1) := by decide +kernel
theorem dX11_note_43 : decode cX11_note 43 = .ok (.getfield 7, 3) := by decide +kernel
theorem dX11_note_46 : decode cX11_note 46 = .ok (.bipush 77, 2) := by decide +kernel
theorem dX11_note_48 : decode cX11_note 48 = .ok (.dup2, 1) := by decide +kernel
theorem dX11_note_49 : decode cX11_note 49 = .ok (.iaload, 1) := by decide +kernel
theorem dX11_note_50 : decode cX11_note 50 = .ok (.iconst 1, 1) := by decide +kernel
theorem dX11_note_51 : decode cX11_note 51 = .ok (.isub, 1) := by decide +kernel
theorem dX11_note_52 : decode cX11_note 52 = .ok (.iastore, 1) := by decide +kernel
theorem dX11_note_53 : decode cX11_note 53 = .ok (.bipush 94, 2) := by decide +kernel
theorem dX11_note_55 : decode cX11_note 55 = .ok (.iconst 5, 1) := by decide +kernel
theorem dX11_note_56 : decode cX11_note 56 = .ok (.aload_n 0, 1) := by decide +kernel
theorem dX11_note_57 : decode cX11_note 57 = .ok (.getfield 7, 3) := by decide +kernel
theorem dX11_note_60 : decode cX11_note 60 = .ok (.bipush 77, 2) := by decide +kernel
theorem dX11_note_62 : decode cX11_note 62 = .ok (.iaload, 1) := by decide +kernel
theorem dX11_note_63 : decode cX11_note 63 = .ok (.imul, 1) := by decide +kernel
theorem dX11_note_64 : decode cX11_note 64 = .ok (.iadd, 1) := by decide +kernel
theorem dX11_note_65 : decode cX11_note 65 = .ok (.istore_n 3, 1) := by decide +kernel
theorem dX11_note_66 : decode cX11_note 66 = .ok (.aload_n 0, 1) := by decide +kernel
theorem dX11_note_67 : decode cX11_note 67 = .ok (.getfield 7, 3) := by decide +kernel
theorem dX11_note_70 : decode cX11_note 70 = .ok (.iload_n 3, 1) := by decide +kernel
theorem dX11_note_71 : decode cX11_note 71 = .ok (.iload_n 1, 1) := by decide +kernel
theorem dX11_note_72 : decode cX11_note 72 = .ok (.iastore, 1) := by decide +kernel
theorem dX11_note_73 : decode cX11_note 73 = .ok (.aload_n 0, 1) := by decide +kernel
theorem dX11_note_74 : decode cX11_note 74 = .ok (.getfield 7, 3) := by decide +kernel
theorem dX11_note_77 : decode cX11_note 77 = .ok (.iload_n 3, 1) := by decide +kernel
theorem dX11_note_78 : decode cX11_note 78 = .ok (.iconst 1, 1) := by decide +kernel
theorem dX11_note_79 : decode cX11_note 79 = .ok (.iadd, 1) := by decide +kernel
theorem dX11_note_80 : decode cX11_note 80 = .ok (.aload_n 0, 1) := by decide +kernel
theorem dX11_note_81 : decode cX11_note 81 = .ok (.getfield 66, 3) := by decide +kernel
theorem dX11_note_84 : decode cX11_note 84 = .ok (.iconst 1, 1) := by decide +kernel
theorem dX11_note_85 : decode cX11_note 85 = .ok (.isub, 1) := by decide +kernel
theorem dX11_note_86 : decode cX11_note 86 = .ok (.iastore, 1) := by decide +kernel
theorem dX11_note_87 : decode cX11_note 87 = .ok (.aload_n 0, 1) := by decide +kernel
theorem dX11_note_88 : decode cX11_note 88 = .ok (.getfield 7, 3) := by decide +kernel
theorem dX11_note_91 : decode cX11_note 91 = .ok (.iload_n 3, 1) := by decide +kernel
theorem dX11_note_92 : decode cX11_note 92 = .ok (.iconst 2, 1) := by decide +kernel
theorem dX11_note_93 : decode cX11_note 93 = .ok (.iadd, 1) := by decide +kernel
theorem dX11_note_94 : decode cX11_note 94 = .ok (.aload_n 0, 1) := by decide +kernel
theorem dX11_note_95 : decode cX11_note 95 = .ok (.getfield 77, 3) := by decide +kernel
theorem dX11_note_98 : decode cX11_note 98 = .ok (.iastore, 1) := by decide +kernel
theorem dX11_note_99 : decode cX11_note 99 = .ok (.aload_n 0, 1) := by decide +kernel
theorem dX11_note_100 : decode cX11_note 100 = .ok (.getfield 7, 3) := by decide +kernel
theorem dX11_note_103 : decode cX11_note 103 = .ok (.iload_n 3, 1) := by decide +kernel
theorem dX11_note_104 : decode cX11_note 104 = .ok (.iconst 3, 1) := by decide +kernel
theorem dX11_note_105 : decode cX11_note 105 = .ok (.iadd, 1) := by decide +kernel
theorem dX11_note_106 : decode cX11_note 106 = .ok (.aload_n 0, 1) := by decide +kernel
theorem dX11_note_107 : decode cX11_note 107 = .ok (.getfield 80, 3) := by decide +kernel
theorem dX11_note_110 : decode cX11_note 110 = .ok (.iastore, 1) := by decide +kernel
theorem dX11_note_111 : decode cX11_note 111 = .ok (.aload_n 0, 1) := by decide +kernel
theorem dX11_note_112 : decode cX11_note 112 = .ok (.getfield 7, 3) := by decide +kernel
theorem dX11_note_115 : decode cX11_note 115 = .ok (.iload_n 3, 1) := by decide +kernel
theorem dX11_note_116 : decode cX11_note 116 = .ok (.iconst 4, 1) := by decide +kernel
theorem dX11_note_117 : decode cX11_note 117 = .ok (.iadd, 1) := by decide +kernel
theorem dX11_note_118 : decode cX11_note 118 = .ok (.aload_n 0, 1) := by decide +kernel
theorem dX11_note_119 : decode cX11_note 119 = .ok (.getfield 83, 3) := by decide +kernel
theorem dX11_note_122 : decode cX11_note 122 = .ok (.iastore, 1) := by decide +kernel
theorem dX11_note_123 : decode cX11_note 123 = .ok (.aload_n 0, 1) := by decide +kernel
theorem dX11_note_124 : decode cX11_note 124 = .ok (.getfield 7, 3) := by decide +kernel
theorem dX11_note_127 : decode cX11_note 127 = .ok (.bipush 77, 2) := by decide +kernel
theorem dX11_note_129 : decode cX11_note 129 = .ok (.dup2, 1) := by decide +kernel
theorem dX11_note_130 : decode cX11_note 130 = .ok (.iaload, 1) := by decide +kernel
theorem dX11_note_131 : decode cX11_note 131 = .ok (.iconst 1, 1) := by decide +kernel
theorem dX11_note_132 : decode cX11_note 132 = .ok (.iadd, 1) := by decide +kernel
theorem dX11_note_133 : decode cX11_note 133 = .ok (.iastore, 1) := by decide +kernel
theorem dX11_note_134 : decode cX11_note 134 = .ok (.aload_n 0, 1) := by decide +kernel
theorem dX11_note_135 : decode cX11_note 135 = .ok (.getfield 7, 3) := by decide +kernel
theorem dX11_note_138 : decode cX11_note 138 = .ok (.bipush 78, 2) := by decide +kernel
theorem dX11_note_140 : decode cX11_note 140 = .ok (.iload_n 1, 1) := by decide +kernel
theorem dX11_note_141 : decode cX11_note 141 = .ok (.iadd, 1) := by decide +kernel
theorem dX11_note_142 : decode cX11_note 142 = .ok (.aload_n 0, 1) := by decide +kernel
theorem dX11_note_143 : decode cX11_note 143 = .ok (.getfield 77, 3) := by decide +kernel
theorem dX11_note_146 : decode cX11_note 146 = .ok (.iastore, 1) := by decide +kernel
theorem dX11_note_147 : decode cX11_note 147 = .ok (.aload_n 0, 1) := by decide +kernel
theorem dX11_note_148 : decode cX11_note 148 = .ok (.getfield 7, 3) := by decide +kernel
theorem dX11_note_151 : decode cX11_note 151 = .ok (.bipush 88, 2) := by decide +kernel
theorem dX11_note_153 : decode cX11_note 153 = .ok (.iload_n 1, 1) := by decide +kernel
theorem dX11_note_154 : decode cX11_note 154 = .ok (.bipush 8, 2) := by decide +kernel
theorem dX11_note_156 : decode cX11_note 156 = .ok (.if_icmp .ge 7, 3) := by decide +kernel
theorem dX11_note_159 : decode cX11_note 159 = .ok (.iconst 0, 1) := by decide +kernel
theorem dX11_note_160 : decode cX11_note 160 = .ok (.goto 9, 3) := by decide +kernel
theorem dX11_note_163 : decode cX11_note 163 = .ok (.iload_n 1, 1) := by decide +kernel
theorem dX11_note_164 : decode cX11_note 164 = .ok (.bipush 8, 2) := by decide +kernel
theorem dX11_note_166 : decode cX11_note 166 = .ok (.isub, 1) := by decide +kernel
theorem dX11_note_167 : decode cX11_note 167 = .ok (.iconst 1, 1) := by decide +kernel
theorem dX11_note_168 : decode cX11_note 168 = .ok (.iadd, 1) := by decide +kernel
theorem dX11_note_169 : decode cX11_note 169 = .ok (.iadd, 1) := by decide +kernel
theorem dX11_note_170 : decode cX11_note 170 = .ok (.dup2, 1) := by decide +kernel
theorem dX11_note_171 : decode cX11_note 171 = .ok (.iaload, 1) := by decide +kernel
theorem dX11_note_172 : decode cX11_note 172 = .ok (.iload_n 2, 1) := by decide +kernel
theorem dX11_note_173 : decode cX11_note 173 = .ok (.iconst 1, 1) := by decide +kernel
theorem dX11_note_174 : decode cX11_note 174 = .ok (.iadd, 1) := by decide +kernel
theorem dX11_note_175 : decode cX11_note 175 = .ok (.iadd, 1) := by decide +kernel
theorem dX11_note_176 : decode cX11_note 176 = .ok (.iastore, 1) := by decide +kernel
theorem dX11_note_177 : decode cX11_note 177 = .ok (.aload_n 0, 1) := by decide +kernel
theorem dX11_note_178 : decode cX11_note 178 = .ok (.getfield 7, 3) := by decide +kernel
theorem dX11_note_181 : decode cX11_note 181 = .ok (.bipush 92, 2) := by decide +kernel
theorem dX11_note_183 : decode cX11_note 183 = .ok (.dup2, 1) := by decide +kernel
theorem dX11_note_184 : decode cX11_note 184 = .ok (.iaload, 1) := by decide +kernel
theorem dX11_note_185 : decode cX11_note 185 = .ok (.iconst 1, 1) := by decide +kernel
theorem dX11_note_186 : decode cX11_note 186 = .ok (.iadd, 1) := by decide +kernel
theorem dX11_note_187 : decode cX11_note 187 = .ok (.iastore, 1) := by decide +kernel
theorem dX11_note_188 : decode cX11_note 188 = .ok (.aload_n 0, 1) := by decide +kernel
theorem dX11_note_189 : decode cX11_note 189 = .ok (.getfield 7, 3) := by decide +kernel
theorem dX11_note_192 : decode cX11_note 192 = .ok (.bipush 93, 2) := by decide +kernel
theorem dX11_note_194 : decode cX11_note 194 = .ok (.dup2, 1) := by decide +kernel
theorem dX11_note_195 : decode cX11_note 195 = .ok (.iaload, 1) := by decide +kernel
theorem dX11_note_196 : decode cX11_note 196 = .ok (.aload_n 0, 1) := by decide +kernel
theorem dX11_note_197 : decode cX11_note 197 = .ok (.getfield 80, 3) := by decide +kernel
theorem dX11_note_200 : decode cX11_note 200 = .ok (.invokestatic 100, 3) := by decide +kernel
theorem dX11_note_203 : decode cX11_note 203 = .ok (.iadd, 1) := by decide +kernel
theorem dX11_note_204 : decode cX11_note 204 = .ok (.iastore, 1) := by decide +kernel
theorem dX11_note_205 : decode cX11_note 205 = .ok (.return_, 1) := by decide +kernel
set_option maxRecDepth 20000 in
theorem ggX11_scan_X11_in : GoodIn wsX11_scan wsX11_in := goodIn_r _ [12] (by decide +kernel) (by decide +kernel)
set_option maxRecDepth 20000 in
theorem gX11_scan_X11_in : GoodIn wsX11_scan (va_wsS RX11 40 yX11_in wsX11_in) := goodIn_app (goodIn_of _ (by decide +kernel)) ggX11_scan_X11_in
set_option maxRecDepth 20000 in
theorem ggX11_scan_X11_slots : GoodIn wsX11_scan wsX11_slots := goodIn_r _ [16, 3, 17, 18, 19, 11, 20, 78, 79, 80, 81, 82, 83, 84, 85, 86, 87, 88, 89, 90, 91, 92, 93, 94] (by decide +kernel) (by decide +kernel)
set_option maxRecDepth 20000 in
theorem gX11_scan_X11_slots : GoodIn wsX11_scan (wsV RX11 140 RX11 yX11_slots wsX11_slots) := goodIn_app (goodIn_of _ (by decide +kernel)) ggX11_scan_X11_slots
set_option maxRecDepth 20000 in
theorem ggX11_scan_X11_act : GoodIn wsX11_scan wsX11_act := goodIn_r _ [24, 25, 26, 27, 3, 7, 78, 79, 80, 81, 82, 83, 84, 85, 86, 87, 88, 89, 90, 91, 92, 93, 94] (by decide +kernel) (by decide +kernel)
set_option maxRecDepth 20000 in
theorem gX11_scan_X11_act : GoodIn wsX11_scan (wsV RX11 112 RX11 yX11_act wsX11_act) := goodIn_app (goodIn_of _ (by decide +kernel)) ggX11_scan_X11_act
set_option maxRecDepth 20000 in
theorem ggX11_scan_X11_begin : GoodIn wsX11_scan wsX11_begin := goodIn_r _ [31, 7, 6, 3, 8, 78, 79, 80, 81, 82, 83, 84, 85, 86, 87, 88, 89, 90, 91, 92, 93, 94] (by decide +kernel) (by decide +kernel)
set_option maxRecDepth 20000 in
theorem gX11_scan_X11_begin : GoodIn wsX11_scan (wsV RX11 86 RX11 yX11_begin wsX11_begin) := goodIn_app (goodIn_of _ (by decide +kernel)) ggX11_scan_X11_begin
set_option maxRecDepth 20000 in
theorem ggX11_scan_X11_placeOf : GoodIn wsX11_scan wsX11_placeOf := goodIn_r _ [35, 3, 78, 79, 80, 81, 82, 83, 84, 85, 86, 87, 88, 89, 90, 91, 92, 93, 94] (by decide +kernel) (by decide +kernel)
set_option maxRecDepth 20000 in
theorem gX11_scan_X11_placeOf : GoodIn wsX11_scan (wsV RX11 89 RX11 yX11_placeOf wsX11_placeOf) := goodIn_app (goodIn_of _ (by decide +kernel)) ggX11_scan_X11_placeOf
set_option maxRecDepth 20000 in
theorem ggX11_scan_X11_settleOf : GoodIn wsX11_scan wsX11_settleOf := goodIn_r _ [20, 3, 78, 79, 80, 81, 82, 83, 84, 85, 86, 87, 88, 89, 90, 91, 92, 93, 94] (by decide +kernel) (by decide +kernel)
set_option maxRecDepth 20000 in
theorem gX11_scan_X11_settleOf : GoodIn wsX11_scan (wsV RX11 93 RX11 yX11_settleOf wsX11_settleOf) := goodIn_app (goodIn_of _ (by decide +kernel)) ggX11_scan_X11_settleOf
set_option maxRecDepth 20000 in
theorem ggX11_scan_X11_carryOut : GoodIn wsX11_scan wsX11_carryOut := goodIn_r _ [39, 6, 8, 40, 41, 42, 43, 44, 45, 11, 46, 47, 48, 49, 50, 3, 51, 52, 53, 54, 55, 56, 57, 58, 59, 60, 61, 62, 63, 64, 65, 66, 67, 68, 69, 70, 78, 79, 80, 81, 82, 83, 84, 85, 86, 87, 88, 89, 90, 91, 92, 93, 94] (by decide +kernel) (by decide +kernel)
set_option maxRecDepth 20000 in
theorem gX11_scan_X11_carryOut : GoodIn wsX11_scan (wsV RX11 96 RX11 yX11_carryOut wsX11_carryOut) := goodIn_app (goodIn_of _ (by decide +kernel)) ggX11_scan_X11_carryOut
set_option maxRecDepth 20000 in
theorem ggX11_scan_X11_note : GoodIn wsX11_scan wsX11_note := goodIn_r _ [74, 3, 8, 40, 41, 42, 75, 76, 11, 77, 78, 79, 80, 81, 82, 83, 84, 85, 86, 87, 88, 89, 90, 91, 92, 93, 94] (by decide +kernel) (by decide +kernel)
set_option maxRecDepth 20000 in
theorem gX11_scan_X11_note : GoodIn wsX11_scan (wsV RX11 144 RX11 yX11_note wsX11_note) := goodIn_app (goodIn_of _ (by decide +kernel)) ggX11_scan_X11_note
theorem dX11_scan_0 : decode cX11_scan 0 = .ok (.aload_n 0, 1) := by decide +kernel
theorem dX11_scan_1 : decode cX11_scan 1 = .ok (.iconst 0, 1) := by decide +kernel
theorem dX11_scan_2 : decode cX11_scan 2 = .ok (.putfield 29, 3) := by decide +kernel
theorem dX11_scan_5 : decode cX11_scan 5 = .ok (.iload_n 1, 1) := by decide +kernel
theorem dX11_scan_6 : decode cX11_scan 6 = .ok (.iconst 1, 1) := by decide +kernel
theorem dX11_scan_7 : decode cX11_scan 7 = .ok (.bipush 20, 2) := by decide +kernel
theorem dX11_scan_9 : decode cX11_scan 9 = .ok (.invokestatic 40, 3) := by decide +kernel
theorem dX11_scan_12 : decode cX11_scan 12 = .ok (.ifCond .ne 6, 3) := by decide +kernel
theorem dX11_scan_15 : decode cX11_scan 15 = .ok (.ldc 111, 2) := by decide +kernel
theorem dX11_scan_17 : decode cX11_scan 17 = .ok (.ireturn, 1) := by decide +kernel
theorem dX11_scan_18 : decode cX11_scan 18 = .ok (.aload_n 0, 1) := by decide +kernel
theorem dX11_scan_19 : decode cX11_scan 19 = .ok (.getfield 7, 3) := by decide +kernel
theorem dX11_scan_22 : decode cX11_scan 22 = .ok (.bipush 43, 2) := by decide +kernel
theorem dX11_scan_24 : decode cX11_scan 24 = .ok (.iaload, 1) := by decide +kernel
theorem dX11_scan_25 : decode cX11_scan 25 = .ok (.ifCond .ne 6, 3) := by decide +kernel
theorem dX11_scan_28 : decode cX11_scan 28 = .ok (.ldc 139, 2) := by decide +kernel
theorem dX11_scan_30 : decode cX11_scan 30 = .ok (.ireturn, 1) := by decide +kernel
theorem dX11_scan_31 : decode cX11_scan 31 = .ok (.aload_n 0, 1) := by decide +kernel
theorem dX11_scan_32 : decode cX11_scan 32 = .ok (.getfield 7, 3) := by decide +kernel
theorem dX11_scan_35 : decode cX11_scan 35 = .ok (.bipush 76, 2) := by decide +kernel
theorem dX11_scan_37 : decode cX11_scan 37 = .ok (.iaload, 1) := by decide +kernel
theorem dX11_scan_38 : decode cX11_scan 38 = .ok (.iload_n 1, 1) := by decide +kernel
theorem dX11_scan_39 : decode cX11_scan 39 = .ok (.aload_n 0, 1) := by decide +kernel
theorem dX11_scan_40 : decode cX11_scan 40 = .ok (.invokevirtual 140, 3) := by decide +kernel
theorem dX11_scan_43 : decode cX11_scan 43 = .ok (.imul, 1) := by decide +kernel
theorem dX11_scan_44 : decode cX11_scan 44 = .ok (.iadd, 1) := by decide +kernel
theorem dX11_scan_45 : decode cX11_scan 45 = .ok (.sipush 9999, 3) := by decide +kernel
theorem dX11_scan_48 : decode cX11_scan 48 = .ok (.if_icmp .le 6, 3) := by decide +kernel
theorem dX11_scan_51 : decode cX11_scan 51 = .ok (.ldc 122, 2) := by decide +kernel
theorem dX11_scan_53 : decode cX11_scan 53 = .ok (.ireturn, 1) := by decide +kernel
theorem dX11_scan_54 : decode cX11_scan 54 = .ok (.aload_n 0, 1) := by decide +kernel
theorem dX11_scan_55 : decode cX11_scan 55 = .ok (.invokevirtual 112, 3) := by decide +kernel
theorem dX11_scan_58 : decode cX11_scan 58 = .ok (.aload_n 0, 1) := by decide +kernel
theorem dX11_scan_59 : decode cX11_scan 59 = .ok (.getfield 7, 3) := by decide +kernel
theorem dX11_scan_62 : decode cX11_scan 62 = .ok (.bipush 93, 2) := by decide +kernel
theorem dX11_scan_64 : decode cX11_scan 64 = .ok (.iaload, 1) := by decide +kernel
theorem dX11_scan_65 : decode cX11_scan 65 = .ok (.istore_n 2, 1) := by decide +kernel
theorem dX11_scan_66 : decode cX11_scan 66 = .ok (.aload_n 0, 1) := by decide +kernel
theorem dX11_scan_67 : decode cX11_scan 67 = .ok (.invokevirtual 86, 3) := by decide +kernel
theorem dX11_scan_70 : decode cX11_scan 70 = .ok (.iconst 0, 1) := by decide +kernel
theorem dX11_scan_71 : decode cX11_scan 71 = .ok (.istore_n 3, 1) := by decide +kernel
theorem dX11_scan_72 : decode cX11_scan 72 = .ok (.iload_n 3, 1) := by decide +kernel
theorem dX11_scan_73 : decode cX11_scan 73 = .ok (.iload_n 1, 1) := by decide +kernel
theorem dX11_scan_74 : decode cX11_scan 74 = .ok (.if_icmp .ge 62, 3) := by decide +kernel
theorem dX11_scan_77 : decode cX11_scan 77 = .ok (.iconst 0, 1) := by decide +kernel
theorem dX11_scan_78 : decode cX11_scan 78 = .ok (.istore 4, 2) := by decide +kernel
theorem dX11_scan_80 : decode cX11_scan 80 = .ok (.iload 4, 2) := by decide +kernel
theorem dX11_scan_82 : decode cX11_scan 82 = .ok (.aload_n 0, 1) := by decide +kernel
theorem dX11_scan_83 : decode cX11_scan 83 = .ok (.getfield 7, 3) := by decide +kernel
theorem dX11_scan_86 : decode cX11_scan 86 = .ok (.bipush 43, 2) := by decide +kernel
theorem dX11_scan_88 : decode cX11_scan 88 = .ok (.iaload, 1) := by decide +kernel
theorem dX11_scan_89 : decode cX11_scan 89 = .ok (.if_icmp .ge 41, 3) := by decide +kernel
theorem dX11_scan_92 : decode cX11_scan 92 = .ok (.aload_n 0, 1) := by decide +kernel
theorem dX11_scan_93 : decode cX11_scan 93 = .ok (.aload_n 0, 1) := by decide +kernel
theorem dX11_scan_94 : decode cX11_scan 94 = .ok (.iload 4, 2) := by decide +kernel
theorem dX11_scan_96 : decode cX11_scan 96 = .ok (.invokevirtual 89, 3) := by decide +kernel
theorem dX11_scan_99 : decode cX11_scan 99 = .ok (.aload_n 0, 1) := by decide +kernel
theorem dX11_scan_100 : decode cX11_scan 100 = .ok (.iload 4, 2) := by decide +kernel
theorem dX11_scan_102 : decode cX11_scan 102 = .ok (.invokevirtual 93, 3) := by decide +kernel
theorem dX11_scan_105 : decode cX11_scan 105 = .ok (.invokevirtual 96, 3) := by decide +kernel
theorem dX11_scan_108 : decode cX11_scan 108 = .ok (.aload_n 0, 1) := by decide +kernel
theorem dX11_scan_109 : decode cX11_scan 109 = .ok (.aload_n 0, 1) := by decide +kernel
theorem dX11_scan_110 : decode cX11_scan 110 = .ok (.iload 4, 2) := by decide +kernel
theorem dX11_scan_112 : decode cX11_scan 112 = .ok (.invokevirtual 89, 3) := by decide +kernel
theorem dX11_scan_115 : decode cX11_scan 115 = .ok (.aload_n 0, 1) := by decide +kernel
theorem dX11_scan_116 : decode cX11_scan 116 = .ok (.iload 4, 2) := by decide +kernel
theorem dX11_scan_118 : decode cX11_scan 118 = .ok (.invokevirtual 93, 3) := by decide +kernel
theorem dX11_scan_121 : decode cX11_scan 121 = .ok (.invokevirtual 144, 3) := by decide +kernel
theorem dX11_scan_124 : decode cX11_scan 124 = .ok (.iinc 4 1, 3) := by decide +kernel
theorem dX11_scan_127 : decode cX11_scan 127 = .ok (.goto (-47), 3) := by decide +kernel
theorem dX11_scan_130 : decode cX11_scan 130 = .ok (.iinc 3 1, 3) := by decide +kernel
theorem dX11_scan_133 : decode cX11_scan 133 = .ok (.goto (-61), 3) := by decide +kernel
theorem dX11_scan_136 : decode cX11_scan 136 = .ok (.aload_n 0, 1) := by decide +kernel
theorem dX11_scan_137 : decode cX11_scan 137 = .ok (.aload_n 0, 1) := by decide +kernel
theorem dX11_scan_138 : decode cX11_scan 138 = .ok (.getfield 63, 3) := by decide +kernel
theorem dX11_scan_141 : decode cX11_scan 141 = .ok (.putfield 36, 3) := by decide +kernel
theorem dX11_scan_144 : decode cX11_scan 144 = .ok (.aload_n 0, 1) := by decide +kernel
theorem dX11_scan_145 : decode cX11_scan 145 = .ok (.getfield 7, 3) := by decide +kernel
theorem dX11_scan_148 : decode cX11_scan 148 = .ok (.bipush 76, 2) := by decide +kernel
theorem dX11_scan_150 : decode cX11_scan 150 = .ok (.aload_n 0, 1) := by decide +kernel
theorem dX11_scan_151 : decode cX11_scan 151 = .ok (.getfield 66, 3) := by decide +kernel
theorem dX11_scan_154 : decode cX11_scan 154 = .ok (.iastore, 1) := by decide +kernel
theorem dX11_scan_155 : decode cX11_scan 155 = .ok (.aload_n 0, 1) := by decide +kernel
