theorem dX11_scan_156 : decode cX11_scan 156 = .ok (.getfield 7, 3) := by decide +kernel
theorem dX11_scan_159 : decode cX11_scan 159 = .ok (.bipush 93, 2) := by decide +kernel
theorem dX11_scan_161 : decode cX11_scan 161 = .ok (.iaload, 1) := by decide +kernel
theorem dX11_scan_162 : decode cX11_scan 162 = .ok (.iload_n 2, 1) := by decide +kernel
theorem dX11_scan_163 : decode cX11_scan 163 = .ok (.isub, 1) := by decide +kernel
theorem dX11_scan_164 : decode cX11_scan 164 = .ok (.ireturn, 1) := by decide +kernel
set_option maxRecDepth 20000 in
theorem ggX11_pass_X11_in : GoodIn wsX11_pass wsX11_in := goodIn_r _ [8] (by decide +kernel) (by decide +kernel)
set_option maxRecDepth 20000 in
theorem gX11_pass_X11_in : GoodIn wsX11_pass (va_wsS RX11 40 yX11_in wsX11_in) := goodIn_app (goodIn_of _ (by decide +kernel)) ggX11_pass_X11_in
set_option maxRecDepth 20000 in
theorem ggX11_pass_X11_act : GoodIn wsX11_pass wsX11_act := goodIn_r _ [12, 13, 14, 15, 3, 16, 17, 18, 19, 20, 21, 22, 23, 24, 25, 26, 27, 28, 29, 30, 31, 32, 33] (by decide +kernel) (by decide +kernel)
set_option maxRecDepth 20000 in
theorem gX11_pass_X11_act : GoodIn wsX11_pass (wsV RX11 112 RX11 yX11_act wsX11_act) := goodIn_app (goodIn_of _ (by decide +kernel)) ggX11_pass_X11_act
theorem dX11_pass_0 : decode cX11_pass 0 = .ok (.aload_n 0, 1) := by decide +kernel
theorem dX11_pass_1 : decode cX11_pass 1 = .ok (.iconst 0, 1) := by decide +kernel
theorem dX11_pass_2 : decode cX11_pass 2 = .ok (.putfield 29, 3) := by decide +kernel
theorem dX11_pass_5 : decode cX11_pass 5 = .ok (.iload_n 1, 1) := by decide +kernel
theorem dX11_pass_6 : decode cX11_pass 6 = .ok (.iconst 1, 1) := by decide +kernel
theorem dX11_pass_7 : decode cX11_pass 7 = .ok (.sipush 1000, 3) := by decide +kernel
theorem dX11_pass_10 : decode cX11_pass 10 = .ok (.invokestatic 40, 3) := by decide +kernel
theorem dX11_pass_13 : decode cX11_pass 13 = .ok (.ifCond .ne 6, 3) := by decide +kernel
theorem dX11_pass_16 : decode cX11_pass 16 = .ok (.ldc 111, 2) := by decide +kernel
theorem dX11_pass_18 : decode cX11_pass 18 = .ok (.ireturn, 1) := by decide +kernel
theorem dX11_pass_19 : decode cX11_pass 19 = .ok (.aload_n 0, 1) := by decide +kernel
theorem dX11_pass_20 : decode cX11_pass 20 = .ok (.getfield 7, 3) := by decide +kernel
theorem dX11_pass_23 : decode cX11_pass 23 = .ok (.bipush 76, 2) := by decide +kernel
theorem dX11_pass_25 : decode cX11_pass 25 = .ok (.iaload, 1) := by decide +kernel
theorem dX11_pass_26 : decode cX11_pass 26 = .ok (.iload_n 1, 1) := by decide +kernel
theorem dX11_pass_27 : decode cX11_pass 27 = .ok (.iadd, 1) := by decide +kernel
theorem dX11_pass_28 : decode cX11_pass 28 = .ok (.sipush 9999, 3) := by decide +kernel
theorem dX11_pass_31 : decode cX11_pass 31 = .ok (.if_icmp .le 6, 3) := by decide +kernel
theorem dX11_pass_34 : decode cX11_pass 34 = .ok (.ldc 122, 2) := by decide +kernel
theorem dX11_pass_36 : decode cX11_pass 36 = .ok (.ireturn, 1) := by decide +kernel
theorem dX11_pass_37 : decode cX11_pass 37 = .ok (.aload_n 0, 1) := by decide +kernel
theorem dX11_pass_38 : decode cX11_pass 38 = .ok (.invokevirtual 112, 3) := by decide +kernel
theorem dX11_pass_41 : decode cX11_pass 41 = .ok (.aload_n 0, 1) := by decide +kernel
theorem dX11_pass_42 : decode cX11_pass 42 = .ok (.getfield 7, 3) := by decide +kernel
theorem dX11_pass_45 : decode cX11_pass 45 = .ok (.bipush 76, 2) := by decide +kernel
theorem dX11_pass_47 : decode cX11_pass 47 = .ok (.dup2, 1) := by decide +kernel
theorem dX11_pass_48 : decode cX11_pass 48 = .ok (.iaload, 1) := by decide +kernel
theorem dX11_pass_49 : decode cX11_pass 49 = .ok (.iload_n 1, 1) := by decide +kernel
theorem dX11_pass_50 : decode cX11_pass 50 = .ok (.iadd, 1) := by decide +kernel
theorem dX11_pass_51 : decode cX11_pass 51 = .ok (.iastore, 1) := by decide +kernel
theorem dX11_pass_52 : decode cX11_pass 52 = .ok (.aload_n 0, 1) := by decide +kernel
theorem dX11_pass_53 : decode cX11_pass 53 = .ok (.getfield 7, 3) := by decide +kernel
theorem dX11_pass_56 : decode cX11_pass 56 = .ok (.bipush 91, 2) := by decide +kernel
theorem dX11_pass_58 : decode cX11_pass 58 = .ok (.dup2, 1) := by decide +kernel
theorem dX11_pass_59 : decode cX11_pass 59 = .ok (.iaload, 1) := by decide +kernel
theorem dX11_pass_60 : decode cX11_pass 60 = .ok (.iload_n 1, 1) := by decide +kernel
theorem dX11_pass_61 : decode cX11_pass 61 = .ok (.iadd, 1) := by decide +kernel
theorem dX11_pass_62 : decode cX11_pass 62 = .ok (.iastore, 1) := by decide +kernel
theorem dX11_pass_63 : decode cX11_pass 63 = .ok (.aload_n 0, 1) := by decide +kernel
theorem dX11_pass_64 : decode cX11_pass 64 = .ok (.getfield 7, 3) := by decide +kernel
theorem dX11_pass_67 : decode cX11_pass 67 = .ok (.bipush 76, 2) := by decide +kernel
theorem dX11_pass_69 : decode cX11_pass 69 = .ok (.iaload, 1) := by decide +kernel
theorem dX11_pass_70 : decode cX11_pass 70 = .ok (.ireturn, 1) := by decide +kernel
set_option maxRecDepth 20000 in
theorem ggX11_take_X11_in : GoodIn wsX11_take wsX11_in := goodIn_r _ [7] (by decide +kernel) (by decide +kernel)
set_option maxRecDepth 20000 in
theorem gX11_take_X11_in : GoodIn wsX11_take (va_wsS RX11 40 yX11_in wsX11_in) := goodIn_app (goodIn_of _ (by decide +kernel)) ggX11_take_X11_in
set_option maxRecDepth 20000 in
theorem ggX11_take_X11_act : GoodIn wsX11_take wsX11_act := goodIn_r _ [11, 12, 13, 14, 3, 15, 16, 17, 18, 19, 20, 21, 22, 23, 24, 25, 26, 27, 28, 29, 30, 31, 32] (by decide +kernel) (by decide +kernel)
set_option maxRecDepth 20000 in
theorem gX11_take_X11_act : GoodIn wsX11_take (wsV RX11 112 RX11 yX11_act wsX11_act) := goodIn_app (goodIn_of _ (by decide +kernel)) ggX11_take_X11_act
theorem dX11_take_0 : decode cX11_take 0 = .ok (.aload_n 0, 1) := by decide +kernel
theorem dX11_take_1 : decode cX11_take 1 = .ok (.iconst 0, 1) := by decide +kernel
theorem dX11_take_2 : decode cX11_take 2 = .ok (.putfield 29, 3) := by decide +kernel
theorem dX11_take_5 : decode cX11_take 5 = .ok (.iload_n 1, 1) := by decide +kernel
theorem dX11_take_6 : decode cX11_take 6 = .ok (.iconst 0, 1) := by decide +kernel
theorem dX11_take_7 : decode cX11_take 7 = .ok (.iconst 1, 1) := by decide +kernel
theorem dX11_take_8 : decode cX11_take 8 = .ok (.invokestatic 40, 3) := by decide +kernel
theorem dX11_take_11 : decode cX11_take 11 = .ok (.ifCond .ne 6, 3) := by decide +kernel
theorem dX11_take_14 : decode cX11_take 14 = .ok (.ldc 111, 2) := by decide +kernel
theorem dX11_take_16 : decode cX11_take 16 = .ok (.ireturn, 1) := by decide +kernel
theorem dX11_take_17 : decode cX11_take 17 = .ok (.aload_n 0, 1) := by decide +kernel
theorem dX11_take_18 : decode cX11_take 18 = .ok (.invokevirtual 112, 3) := by decide +kernel
theorem dX11_take_21 : decode cX11_take 21 = .ok (.sipush 254, 3) := by decide +kernel
theorem dX11_take_24 : decode cX11_take 24 = .ok (.bipush 77, 2) := by decide +kernel
theorem dX11_take_26 : decode cX11_take 26 = .ok (.iload_n 1, 1) := by decide +kernel
theorem dX11_take_27 : decode cX11_take 27 = .ok (.imul, 1) := by decide +kernel
theorem dX11_take_28 : decode cX11_take 28 = .ok (.iadd, 1) := by decide +kernel
theorem dX11_take_29 : decode cX11_take 29 = .ok (.istore_n 2, 1) := by decide +kernel
theorem dX11_take_30 : decode cX11_take 30 = .ok (.aload_n 0, 1) := by decide +kernel
theorem dX11_take_31 : decode cX11_take 31 = .ok (.getfield 7, 3) := by decide +kernel
theorem dX11_take_34 : decode cX11_take 34 = .ok (.iload_n 2, 1) := by decide +kernel
theorem dX11_take_35 : decode cX11_take 35 = .ok (.iconst 1, 1) := by decide +kernel
theorem dX11_take_36 : decode cX11_take 36 = .ok (.iastore, 1) := by decide +kernel
theorem dX11_take_37 : decode cX11_take 37 = .ok (.iconst 0, 1) := by decide +kernel
theorem dX11_take_38 : decode cX11_take 38 = .ok (.istore_n 3, 1) := by decide +kernel
theorem dX11_take_39 : decode cX11_take 39 = .ok (.iload_n 3, 1) := by decide +kernel
theorem dX11_take_40 : decode cX11_take 40 = .ok (.bipush 76, 2) := by decide +kernel
theorem dX11_take_42 : decode cX11_take 42 = .ok (.if_icmp .ge 25, 3) := by decide +kernel
theorem dX11_take_45 : decode cX11_take 45 = .ok (.aload_n 0, 1) := by decide +kernel
theorem dX11_take_46 : decode cX11_take 46 = .ok (.getfield 7, 3) := by decide +kernel
theorem dX11_take_49 : decode cX11_take 49 = .ok (.iload_n 2, 1) := by decide +kernel
theorem dX11_take_50 : decode cX11_take 50 = .ok (.iconst 1, 1) := by decide +kernel
theorem dX11_take_51 : decode cX11_take 51 = .ok (.iadd, 1) := by decide +kernel
theorem dX11_take_52 : decode cX11_take 52 = .ok (.iload_n 3, 1) := by decide +kernel
theorem dX11_take_53 : decode cX11_take 53 = .ok (.iadd, 1) := by decide +kernel
theorem dX11_take_54 : decode cX11_take 54 = .ok (.aload_n 0, 1) := by decide +kernel
theorem dX11_take_55 : decode cX11_take 55 = .ok (.getfield 7, 3) := by decide +kernel
theorem dX11_take_58 : decode cX11_take 58 = .ok (.iload_n 3, 1) := by decide +kernel
theorem dX11_take_59 : decode cX11_take 59 = .ok (.iaload, 1) := by decide +kernel
theorem dX11_take_60 : decode cX11_take 60 = .ok (.iastore, 1) := by decide +kernel
theorem dX11_take_61 : decode cX11_take 61 = .ok (.iinc 3 1, 3) := by decide +kernel
theorem dX11_take_64 : decode cX11_take 64 = .ok (.goto (-25), 3) := by decide +kernel
theorem dX11_take_67 : decode cX11_take 67 = .ok (.aload_n 0, 1) := by decide +kernel
theorem dX11_take_68 : decode cX11_take 68 = .ok (.getfield 7, 3) := by decide +kernel
theorem dX11_take_71 : decode cX11_take 71 = .ok (.bipush 43, 2) := by decide +kernel
theorem dX11_take_73 : decode cX11_take 73 = .ok (.iaload, 1) := by decide +kernel
theorem dX11_take_74 : decode cX11_take 74 = .ok (.ireturn, 1) := by decide +kernel
set_option maxRecDepth 20000 in
theorem ggX11_restore_X11_in : GoodIn wsX11_restore wsX11_in := goodIn_r _ [8] (by decide +kernel) (by decide +kernel)
set_option maxRecDepth 20000 in
theorem gX11_restore_X11_in : GoodIn wsX11_restore (va_wsS RX11 40 yX11_in wsX11_in) := goodIn_app (goodIn_of _ (by decide +kernel)) ggX11_restore_X11_in
set_option maxRecDepth 20000 in
theorem ggX11_restore_X11_act : GoodIn wsX11_restore wsX11_act := goodIn_r _ [12, 13, 14, 15, 3, 16, 17, 18, 19, 20, 21, 22, 23, 24, 25, 26, 27, 28, 29, 30, 31, 32, 33] (by decide +kernel) (by decide +kernel)
set_option maxRecDepth 20000 in
theorem gX11_restore_X11_act : GoodIn wsX11_restore (wsV RX11 112 RX11 yX11_act wsX11_act) := goodIn_app (goodIn_of _ (by decide +kernel)) ggX11_restore_X11_act
theorem dX11_restore_0 : decode cX11_restore 0 = .ok (.aload_n 0, 1) := by decide +kernel
theorem dX11_restore_1 : decode cX11_restore 1 = .ok (.iconst 0, 1) := by decide +kernel
theorem dX11_restore_2 : decode cX11_restore 2 = .ok (.putfield 29, 3) := by decide +kernel
theorem dX11_restore_5 : decode cX11_restore 5 = .ok (.iload_n 1, 1) := by decide +kernel
theorem dX11_restore_6 : decode cX11_restore 6 = .ok (.iconst 0, 1) := by decide +kernel
theorem dX11_restore_7 : decode cX11_restore 7 = .ok (.iconst 1, 1) := by decide +kernel
theorem dX11_restore_8 : decode cX11_restore 8 = .ok (.invokestatic 40, 3) := by decide +kernel
theorem dX11_restore_11 : decode cX11_restore 11 = .ok (.ifCond .ne 6, 3) := by decide +kernel
theorem dX11_restore_14 : decode cX11_restore 14 = .ok (.ldc 111, 2) := by decide +kernel
theorem dX11_restore_16 : decode cX11_restore 16 = .ok (.ireturn, 1) := by decide +kernel
theorem dX11_restore_17 : decode cX11_restore 17 = .ok (.sipush 254, 3) := by decide +kernel
theorem dX11_restore_20 : decode cX11_restore 20 = .ok (.bipush 77, 2) := by decide +kernel
theorem dX11_restore_22 : decode cX11_restore 22 = .ok (.iload_n 1, 1) := by decide +kernel
theorem dX11_restore_23 : decode cX11_restore 23 = .ok (.imul, 1) := by decide +kernel
theorem dX11_restore_24 : decode cX11_restore 24 = .ok (.iadd, 1) := by decide +kernel
theorem dX11_restore_25 : decode cX11_restore 25 = .ok (.istore_n 2, 1) := by decide +kernel
theorem dX11_restore_26 : decode cX11_restore 26 = .ok (.aload_n 0, 1) := by decide +kernel
theorem dX11_restore_27 : decode cX11_restore 27 = .ok (.getfield 7, 3) := by decide +kernel
theorem dX11_restore_30 : decode cX11_restore 30 = .ok (.iload_n 2, 1) := by decide +kernel
theorem dX11_restore_31 : decode cX11_restore 31 = .ok (.iaload, 1) := by decide +kernel
theorem dX11_restore_32 : decode cX11_restore 32 = .ok (.ifCond .ne 6, 3) := by decide +kernel
theorem dX11_restore_35 : decode cX11_restore 35 = .ok (.ldc 139, 2) := by decide +kernel
theorem dX11_restore_37 : decode cX11_restore 37 = .ok (.ireturn, 1) := by decide +kernel
theorem dX11_restore_38 : decode cX11_restore 38 = .ok (.aload_n 0, 1) := by decide +kernel
theorem dX11_restore_39 : decode cX11_restore 39 = .ok (.invokevirtual 112, 3) := by decide +kernel
theorem dX11_restore_42 : decode cX11_restore 42 = .ok (.iconst 0, 1) := by decide +kernel
theorem dX11_restore_43 : decode cX11_restore 43 = .ok (.istore_n 3, 1) := by decide +kernel
theorem dX11_restore_44 : decode cX11_restore 44 = .ok (.iload_n 3, 1) := by decide +kernel
theorem dX11_restore_45 : decode cX11_restore 45 = .ok (.bipush 76, 2) := by decide +kernel
theorem dX11_restore_47 : decode cX11_restore 47 = .ok (.if_icmp .ge 25, 3) := by decide +kernel
theorem dX11_restore_50 : decode cX11_restore 50 = .ok (.aload_n 0, 1) := by decide +kernel
theorem dX11_restore_51 : decode cX11_restore 51 = .ok (.getfield 7, 3) := by decide +kernel
theorem dX11_restore_54 : decode cX11_restore 54 = .ok (.iload_n 3, 1) := by decide +kernel
theorem dX11_restore_55 : decode cX11_restore 55 = .ok (.aload_n 0, 1) := by decide +kernel
theorem dX11_restore_56 : decode cX11_restore 56 = .ok (.getfield 7, 3) := by decide +kernel
theorem dX11_restore_59 : decode cX11_restore 59 = .ok (.iload_n 2, 1) := by decide +kernel
theorem dX11_restore_60 : decode cX11_restore 60 = .ok (.iconst 1, 1) := by decide +kernel
theorem dX11_restore_61 : decode cX11_restore 61 = .ok (.iadd, 1) := by decide +kernel
theorem dX11_restore_62 : decode cX11_restore 62 = .ok (.iload_n 3, 1) := by decide +kernel
theorem dX11_restore_63 : decode cX11_restore 63 = .ok (.iadd, 1) := by decide +kernel
theorem dX11_restore_64 : decode cX11_restore 64 = .ok (.iaload, 1) := by decide +kernel
theorem dX11_restore_65 : decode cX11_restore 65 = .ok (.iastore, 1) := by decide +kernel
theorem dX11_restore_66 : decode cX11_restore 66 = .ok (.iinc 3 1, 3) := by decide +kernel
theorem dX11_restore_69 : decode cX11_restore 69 = .ok (.goto (-25), 3) := by decide +kernel
theorem dX11_restore_72 : decode cX11_restore 72 = .ok (.aload_n 0, 1) := by decide +kernel
theorem dX11_restore_73 : decode cX11_restore 73 = .ok (.getfield 7, 3) := by decide +kernel
theorem dX11_restore_76 : decode cX11_restore 76 = .ok (.bipush 43, 2) := by decide +kernel
theorem dX11_restore_78 : decode cX11_restore 78 = .ok (.iaload, 1) := by decide +kernel
theorem dX11_restore_79 : decode cX11_restore 79 = .ok (.ireturn, 1) := by decide +kernel
theorem dX11_undo_0 : decode cX11_undo 0 = .ok (.aload_n 0, 1) := by decide +kernel
theorem dX11_undo_1 : decode cX11_undo 1 = .ok (.iconst 0, 1) := by decide +kernel
theorem dX11_undo_2 : decode cX11_undo 2 = .ok (.putfield 29, 3) := by decide +kernel
theorem dX11_undo_5 : decode cX11_undo 5 = .ok (.aload_n 0, 1) := by decide +kernel
theorem dX11_undo_6 : decode cX11_undo 6 = .ok (.getfield 33, 3) := by decide +kernel
theorem dX11_undo_9 : decode cX11_undo 9 = .ok (.ifCond .ne 6, 3) := by decide +kernel
theorem dX11_undo_12 : decode cX11_undo 12 = .ok (.ldc 139, 2) := by decide +kernel
theorem dX11_undo_14 : decode cX11_undo 14 = .ok (.ireturn, 1) := by decide +kernel
theorem dX11_undo_15 : decode cX11_undo 15 = .ok (.aload_n 0, 1) := by decide +kernel
theorem dX11_undo_16 : decode cX11_undo 16 = .ok (.dup, 1) := by decide +kernel
theorem dX11_undo_17 : decode cX11_undo 17 = .ok (.getfield 33, 3) := by decide +kernel
theorem dX11_undo_20 : decode cX11_undo 20 = .ok (.iconst 1, 1) := by decide +kernel
theorem dX11_undo_21 : decode cX11_undo 21 = .ok (.isub, 1) := by decide +kernel
theorem dX11_undo_22 : decode cX11_undo 22 = .ok (.putfield 33, 3) := by decide +kernel
theorem dX11_undo_25 : decode cX11_undo 25 = .ok (.iconst 0, 1) := by decide +kernel
theorem dX11_undo_26 : decode cX11_undo 26 = .ok (.istore_n 1, 1) := by decide +kernel
theorem dX11_undo_27 : decode cX11_undo 27 = .ok (.iload_n 1, 1) := by decide +kernel
theorem dX11_undo_28 : decode cX11_undo 28 = .ok (.sipush 408, 3) := by decide +kernel
theorem dX11_undo_31 : decode cX11_undo 31 = .ok (.if_icmp .ge 30, 3) := by decide +kernel
theorem dX11_undo_34 : decode cX11_undo 34 = .ok (.aload_n 0, 1) := by decide +kernel
theorem dX11_undo_35 : decode cX11_undo 35 = .ok (.getfield 7, 3) := by decide +kernel
theorem dX11_undo_38 : decode cX11_undo 38 = .ok (.iload_n 1, 1) := by decide +kernel
theorem dX11_undo_39 : decode cX11_undo 39 = .ok (.aload_n 0, 1) := by decide +kernel
theorem dX11_undo_40 : decode cX11_undo 40 = .ok (.getfield 16, 3) := by decide +kernel
theorem dX11_undo_43 : decode cX11_undo 43 = .ok (.sipush 408, 3) := by decide +kernel
theorem dX11_undo_46 : decode cX11_undo 46 = .ok (.aload_n 0, 1) := by decide +kernel
theorem dX11_undo_47 : decode cX11_undo 47 = .ok (.getfield 33, 3) := by decide +kernel
theorem dX11_undo_50 : decode cX11_undo 50 = .ok (.imul, 1) := by decide +kernel
theorem dX11_undo_51 : decode cX11_undo 51 = .ok (.iload_n 1, 1) := by decide +kernel
theorem dX11_undo_52 : decode cX11_undo 52 = .ok (.iadd, 1) := by decide +kernel
theorem dX11_undo_53 : decode cX11_undo 53 = .ok (.iaload, 1) := by decide +kernel
theorem dX11_undo_54 : decode cX11_undo 54 = .ok (.iastore, 1) := by decide +kernel
theorem dX11_undo_55 : decode cX11_undo 55 = .ok (.iinc 1 1, 3) := by decide +kernel
theorem dX11_undo_58 : decode cX11_undo 58 = .ok (.goto (-31), 3) := by decide +kernel
theorem dX11_undo_61 : decode cX11_undo 61 = .ok (.aload_n 0, 1) := by decide +kernel
theorem dX11_undo_62 : decode cX11_undo 62 = .ok (.aload_n 0, 1) := by decide +kernel
theorem dX11_undo_63 : decode cX11_undo 63 = .ok (.getfield 19, 3) := by decide +kernel
theorem dX11_undo_66 : decode cX11_undo 66 = .ok (.aload_n 0, 1) := by decide +kernel
theorem dX11_undo_67 : decode cX11_undo 67 = .ok (.getfield 33, 3) := by decide +kernel
theorem dX11_undo_70 : decode cX11_undo 70 = .ok (.faload, 1) := by decide +kernel
theorem dX11_undo_71 : decode cX11_undo 71 = .ok (.putfield 36, 3) := by decide +kernel
theorem dX11_undo_74 : decode cX11_undo 74 = .ok (.aload_n 0, 1) := by decide +kernel
theorem dX11_undo_75 : decode cX11_undo 75 = .ok (.getfield 33, 3) := by decide +kernel
theorem dX11_undo_78 : decode cX11_undo 78 = .ok (.ireturn, 1) := by decide +kernel
set_option maxRecDepth 20000 in
theorem ggX11_append_X11_in : GoodIn wsX11_append wsX11_in := goodIn_r _ [9] (by decide +kernel) (by decide +kernel)
set_option maxRecDepth 20000 in
theorem gX11_append_X11_in : GoodIn wsX11_append (va_wsS RX11 40 yX11_in wsX11_in) := goodIn_app (goodIn_of _ (by decide +kernel)) ggX11_append_X11_in
theorem dX11_append_0 : decode cX11_append 0 = .ok (.aload_n 0, 1) := by decide +kernel
theorem dX11_append_1 : decode cX11_append 1 = .ok (.iconst 0, 1) := by decide +kernel
theorem dX11_append_2 : decode cX11_append 2 = .ok (.putfield 29, 3) := by decide +kernel
theorem dX11_append_5 : decode cX11_append 5 = .ok (.iload_n 1, 1) := by decide +kernel
theorem dX11_append_6 : decode cX11_append 6 = .ok (.iconst 1, 1) := by decide +kernel
theorem dX11_append_7 : decode cX11_append 7 = .ok (.sipush 255, 3) := by decide +kernel
theorem dX11_append_10 : decode cX11_append 10 = .ok (.invokestatic 40, 3) := by decide +kernel
theorem dX11_append_13 : decode cX11_append 13 = .ok (.ifCond .ne 6, 3) := by decide +kernel
theorem dX11_append_16 : decode cX11_append 16 = .ok (.ldc 111, 2) := by decide +kernel
theorem dX11_append_18 : decode cX11_append 18 = .ok (.ireturn, 1) := by decide +kernel
theorem dX11_append_19 : decode cX11_append 19 = .ok (.aload_n 0, 1) := by decide +kernel
theorem dX11_append_20 : decode cX11_append 20 = .ok (.getfield 147, 3) := by decide +kernel
theorem dX11_append_23 : decode cX11_append 23 = .ok (.sipush 140, 3) := by decide +kernel
theorem dX11_append_26 : decode cX11_append 26 = .ok (.if_icmp .ne 6, 3) := by decide +kernel
theorem dX11_append_29 : decode cX11_append 29 = .ok (.ldc 122, 2) := by decide +kernel
theorem dX11_append_31 : decode cX11_append 31 = .ok (.ireturn, 1) := by decide +kernel
theorem dX11_append_32 : decode cX11_append 32 = .ok (.aload_n 0, 1) := by decide +kernel
theorem dX11_append_33 : decode cX11_append 33 = .ok (.getfield 23, 3) := by decide +kernel
theorem dX11_append_36 : decode cX11_append 36 = .ok (.aload_n 0, 1) := by decide +kernel
theorem dX11_append_37 : decode cX11_append 37 = .ok (.getfield 147, 3) := by decide +kernel
theorem dX11_append_40 : decode cX11_append 40 = .ok (.iload_n 1, 1) := by decide +kernel
theorem dX11_append_41 : decode cX11_append 41 = .ok (.iastore, 1) := by decide +kernel
theorem dX11_append_42 : decode cX11_append 42 = .ok (.aload_n 0, 1) := by decide +kernel
theorem dX11_append_43 : decode cX11_append 43 = .ok (.dup, 1) := by decide +kernel
theorem dX11_append_44 : decode cX11_append 44 = .ok (.getfield 147, 3) := by decide +kernel
theorem dX11_append_47 : decode cX11_append 47 = .ok (.iconst 1, 1) := by decide +kernel
theorem dX11_append_48 : decode cX11_append 48 = .ok (.iadd, 1) := by decide +kernel
theorem dX11_append_49 : decode cX11_append 49 = .ok (.putfield 147, 3) := by decide +kernel
theorem dX11_append_52 : decode cX11_append 52 = .ok (.aload_n 0, 1) := by decide +kernel
theorem dX11_append_53 : decode cX11_append 53 = .ok (.getfield 147, 3) := by decide +kernel
theorem dX11_append_56 : decode cX11_append 56 = .ok (.ireturn, 1) := by decide +kernel
theorem dX11_clearText_0 : decode cX11_clearText 0 = .ok (.aload_n 0, 1) := by decide +kernel
theorem dX11_clearText_1 : decode cX11_clearText 1 = .ok (.iconst 0, 1) := by decide +kernel
theorem dX11_clearText_2 : decode cX11_clearText 2 = .ok (.putfield 29, 3) := by decide +kernel
theorem dX11_clearText_5 : decode cX11_clearText 5 = .ok (.aload_n 0, 1) := by decide +kernel
theorem dX11_clearText_6 : decode cX11_clearText 6 = .ok (.getfield 147, 3) := by decide +kernel
theorem dX11_clearText_9 : decode cX11_clearText 9 = .ok (.istore_n 1, 1) := by decide +kernel
theorem dX11_clearText_10 : decode cX11_clearText 10 = .ok (.aload_n 0, 1) := by decide +kernel
theorem dX11_clearText_11 : decode cX11_clearText 11 = .ok (.iconst 0, 1) := by decide +kernel
theorem dX11_clearText_12 : decode cX11_clearText 12 = .ok (.putfield 147, 3) := by decide +kernel
theorem dX11_clearText_15 : decode cX11_clearText 15 = .ok (.iload_n 1, 1) := by decide +kernel
theorem dX11_clearText_16 : decode cX11_clearText 16 = .ok (.ireturn, 1) := by decide +kernel
theorem dX11_here_0 : decode cX11_here 0 = .ok (.aload_n 0, 1) := by decide +kernel
theorem dX11_here_1 : decode cX11_here 1 = .ok (.getfield 150, 3) := by decide +kernel
theorem dX11_here_4 : decode cX11_here 4 = .ok (.aload_n 0, 1) := by decide +kernel
theorem dX11_here_5 : decode cX11_here 5 = .ok (.getfield 147, 3) := by decide +kernel
theorem dX11_here_8 : decode cX11_here 8 = .ok (.if_icmp .ge 30, 3) := by decide +kernel
theorem dX11_here_11 : decode cX11_here 11 = .ok (.aload_n 0, 1) := by decide +kernel
theorem dX11_here_12 : decode cX11_here 12 = .ok (.getfield 23, 3) := by decide +kernel
theorem dX11_here_15 : decode cX11_here 15 = .ok (.aload_n 0, 1) := by decide +kernel
theorem dX11_here_16 : decode cX11_here 16 = .ok (.getfield 150, 3) := by decide +kernel
theorem dX11_here_19 : decode cX11_here 19 = .ok (.iaload, 1) := by decide +kernel
theorem dX11_here_20 : decode cX11_here 20 = .ok (.bipush 32, 2) := by decide +kernel
theorem dX11_here_22 : decode cX11_here 22 = .ok (.if_icmp .ne 16, 3) := by decide +kernel
theorem dX11_here_25 : decode cX11_here 25 = .ok (.aload_n 0, 1) := by decide +kernel
theorem dX11_here_26 : decode cX11_here 26 = .ok (.dup, 1) := by decide +kernel
theorem dX11_here_27 : decode cX11_here 27 = .ok (.getfield 150, 3) := by decide +kernel
theorem dX11_here_30 : decode cX11_here 30 = .ok (.iconst 1, 1) := by decide +kernel
theorem dX11_here_31 : decode cX11_here 31 = .ok (.iadd, 1) := by decide +kernel
theorem dX11_here_32 : decode cX11_here 32 = .ok (.putfield 150, 3) := by decide +kernel
theorem dX11_here_35 : decode cX11_here 35 = .ok (.goto (-35), 3) := by decide +kernel
theorem dX11_here_38 : decode cX11_here 38 = .ok (.aload_n 0, 1) := by decide +kernel
theorem dX11_here_39 : decode cX11_here 39 = .ok (.getfield 150, 3) := by decide +kernel
theorem dX11_here_42 : decode cX11_here 42 = .ok (.aload_n 0, 1) := by decide +kernel
theorem dX11_here_43 : decode cX11_here 43 = .ok (.getfield 147, 3) := by decide +kernel
theorem dX11_here_46 : decode cX11_here 46 = .ok (.if_icmp .ge 15, 3) := by decide +kernel
theorem dX11_here_49 : decode cX11_here 49 = .ok (.aload_n 0, 1) := by decide +kernel
theorem dX11_here_50 : decode cX11_here 50 = .ok (.getfield 23, 3) := by decide +kernel
theorem dX11_here_53 : decode cX11_here 53 = .ok (.aload_n 0, 1) := by decide +kernel
theorem dX11_here_54 : decode cX11_here 54 = .ok (.getfield 150, 3) := by decide +kernel
theorem dX11_here_57 : decode cX11_here 57 = .ok (.iaload, 1) := by decide +kernel
theorem dX11_here_58 : decode cX11_here 58 = .ok (.goto 4, 3) := by decide +kernel
theorem dX11_here_61 : decode cX11_here 61 = .ok (.iconst (-1), 1) := by decide +kernel
theorem dX11_here_62 : decode cX11_here 62 = .ok (.ireturn, 1) := by decide +kernel
set_option maxRecDepth 20000 in
theorem ggX11_reads_X11_here : GoodIn wsX11_reads wsX11_here := goodIn_r _ [10, 1, 2, 3, 14, 15, 16, 17, 18, 19, 20, 21, 22, 23, 24, 25, 26, 27, 28, 29, 30] (by decide +kernel) (by decide +kernel)
set_option maxRecDepth 20000 in
theorem gX11_reads_X11_here : GoodIn wsX11_reads (wsV RX11 153 RX11 yX11_here wsX11_here) := goodIn_app (goodIn_of _ (by decide +kernel)) ggX11_reads_X11_here
set_option maxRecDepth 20000 in
theorem ggX11_reads_X11_in : GoodIn wsX11_reads wsX11_in := goodIn_r _ [13] (by decide +kernel) (by decide +kernel)
set_option maxRecDepth 20000 in
theorem gX11_reads_X11_in : GoodIn wsX11_reads (va_wsS RX11 40 yX11_in wsX11_in) := goodIn_app (goodIn_of _ (by decide +kernel)) ggX11_reads_X11_in
theorem dX11_reads_0 : decode cX11_reads 0 = .ok (.aload_n 0, 1) := by decide +kernel
theorem dX11_reads_1 : decode cX11_reads 1 = .ok (.invokevirtual 153, 3) := by decide +kernel
theorem dX11_reads_4 : decode cX11_reads 4 = .ok (.istore_n 3, 1) := by decide +kernel
theorem dX11_reads_5 : decode cX11_reads 5 = .ok (.aload_n 0, 1) := by decide +kernel
theorem dX11_reads_6 : decode cX11_reads 6 = .ok (.getfield 150, 3) := by decide +kernel
theorem dX11_reads_9 : decode cX11_reads 9 = .ok (.istore 4, 2) := by decide +kernel
theorem dX11_reads_11 : decode cX11_reads 11 = .ok (.iconst 0, 1) := by decide +kernel
theorem dX11_reads_12 : decode cX11_reads 12 = .ok (.istore 5, 2) := by decide +kernel
theorem dX11_reads_14 : decode cX11_reads 14 = .ok (.aload_n 0, 1) := by decide +kernel
theorem dX11_reads_15 : decode cX11_reads 15 = .ok (.getfield 150, 3) := by decide +kernel
theorem dX11_reads_18 : decode cX11_reads 18 = .ok (.aload_n 0, 1) := by decide +kernel
theorem dX11_reads_19 : decode cX11_reads 19 = .ok (.getfield 147, 3) := by decide +kernel
theorem dX11_reads_22 : decode cX11_reads 22 = .ok (.if_icmp .ge 67, 3) := by decide +kernel
theorem dX11_reads_25 : decode cX11_reads 25 = .ok (.aload_n 0, 1) := by decide +kernel
theorem dX11_reads_26 : decode cX11_reads 26 = .ok (.getfield 23, 3) := by decide +kernel
theorem dX11_reads_29 : decode cX11_reads 29 = .ok (.aload_n 0, 1) := by decide +kernel
theorem dX11_reads_30 : decode cX11_reads 30 = .ok (.getfield 150, 3) := by decide +kernel
theorem dX11_reads_33 : decode cX11_reads 33 = .ok (.iaload, 1) := by decide +kernel
theorem dX11_reads_34 : decode cX11_reads 34 = .ok (.bipush 48, 2) := by decide +kernel
theorem dX11_reads_36 : decode cX11_reads 36 = .ok (.bipush 57, 2) := by decide +kernel
theorem dX11_reads_38 : decode cX11_reads 38 = .ok (.invokestatic 40, 3) := by decide +kernel
theorem dX11_reads_41 : decode cX11_reads 41 = .ok (.ifCond .eq 48, 3) := by decide +kernel
theorem dX11_reads_44 : decode cX11_reads 44 = .ok (.iload 5, 2) := by decide +kernel
theorem dX11_reads_46 : decode cX11_reads 46 = .ok (.ldc 156, 2) := by decide +kernel
theorem dX11_reads_48 : decode cX11_reads 48 = .ok (.if_icmp .ge 24, 3) := by decide +kernel
theorem dX11_reads_51 : decode cX11_reads 51 = .ok (.bipush 10, 2) := by decide +kernel
theorem dX11_reads_53 : decode cX11_reads 53 = .ok (.iload 5, 2) := by decide +kernel
theorem dX11_reads_55 : decode cX11_reads 55 = .ok (.imul, 1) := by decide +kernel
theorem dX11_reads_56 : decode cX11_reads 56 = .ok (.aload_n 0, 1) := by decide +kernel
theorem dX11_reads_57 : decode cX11_reads 57 = .ok (.getfield 23, 3) := by decide +kernel
theorem dX11_reads_60 : decode cX11_reads 60 = .ok (.aload_n 0, 1) := by decide +kernel
theorem dX11_reads_61 : decode cX11_reads 61 = .ok (.getfield 150, 3) := by decide +kernel
theorem dX11_reads_64 : decode cX11_reads 64 = .ok (.iaload, 1) := by decide +kernel
theorem dX11_reads_65 : decode cX11_reads 65 = .ok (.iadd, 1) := by decide +kernel
theorem dX11_reads_66 : decode cX11_reads 66 = .ok (.bipush 48, 2) := by decide +kernel
theorem dX11_reads_68 : decode cX11_reads 68 = .ok (.isub, 1) := by decide +kernel
theorem dX11_reads_69 : decode cX11_reads 69 = .ok (.goto 5, 3) := by decide +kernel
theorem dX11_reads_72 : decode cX11_reads 72 = .ok (.iload 5, 2) := by decide +kernel
theorem dX11_reads_74 : decode cX11_reads 74 = .ok (.istore 5, 2) := by decide +kernel
theorem dX11_reads_76 : decode cX11_reads 76 = .ok (.aload_n 0, 1) := by decide +kernel
theorem dX11_reads_77 : decode cX11_reads 77 = .ok (.dup, 1) := by decide +kernel
theorem dX11_reads_78 : decode cX11_reads 78 = .ok (.getfield 150, 3) := by decide +kernel
theorem dX11_reads_81 : decode cX11_reads 81 = .ok (.iconst 1, 1) := by decide +kernel
theorem dX11_reads_82 : decode cX11_reads 82 = .ok (.iadd, 1) := by decide +kernel
theorem dX11_reads_83 : decode cX11_reads 83 = .ok (.putfield 150, 3) := by decide +kernel
theorem dX11_reads_86 : decode cX11_reads 86 = .ok (.goto (-72), 3) := by decide +kernel
theorem dX11_reads_89 : decode cX11_reads 89 = .ok (.aload_n 0, 1) := by decide +kernel
theorem dX11_reads_90 : decode cX11_reads 90 = .ok (.getfield 150, 3) := by decide +kernel
theorem dX11_reads_93 : decode cX11_reads 93 = .ok (.iload 4, 2) := by decide +kernel
theorem dX11_reads_95 : decode cX11_reads 95 = .ok (.if_icmp .le 34, 3) := by decide +kernel
theorem dX11_reads_98 : decode cX11_reads 98 = .ok (.iload_n 3, 1) := by decide +kernel
theorem dX11_reads_99 : decode cX11_reads 99 = .ok (.bipush 48, 2) := by decide +kernel
theorem dX11_reads_101 : decode cX11_reads 101 = .ok (.if_icmp .ne 14, 3) := by decide +kernel
theorem dX11_reads_104 : decode cX11_reads 104 = .ok (.aload_n 0, 1) := by decide +kernel
theorem dX11_reads_105 : decode cX11_reads 105 = .ok (.getfield 150, 3) := by decide +kernel
theorem dX11_reads_108 : decode cX11_reads 108 = .ok (.iload 4, 2) := by decide +kernel
theorem dX11_reads_110 : decode cX11_reads 110 = .ok (.iconst 1, 1) := by decide +kernel
theorem dX11_reads_111 : decode cX11_reads 111 = .ok (.iadd, 1) := by decide +kernel
theorem dX11_reads_112 : decode cX11_reads 112 = .ok (.if_icmp .ne 17, 3) := by decide +kernel
theorem dX11_reads_115 : decode cX11_reads 115 = .ok (.iload 5, 2) := by decide +kernel
theorem dX11_reads_117 : decode cX11_reads 117 = .ok (.iload_n 1, 1) := by decide +kernel
theorem dX11_reads_118 : decode cX11_reads 118 = .ok (.iload_n 2, 1) := by decide +kernel
theorem dX11_reads_119 : decode cX11_reads 119 = .ok (.invokestatic 40, 3) := by decide +kernel
theorem dX11_reads_122 : decode cX11_reads 122 = .ok (.ifCond .eq 7, 3) := by decide +kernel
theorem dX11_reads_125 : decode cX11_reads 125 = .ok (.iconst 1, 1) := by decide +kernel
theorem dX11_reads_126 : decode cX11_reads 126 = .ok (.goto 4, 3) := by decide +kernel
theorem dX11_reads_129 : decode cX11_reads 129 = .ok (.iconst 0, 1) := by decide +kernel
theorem dX11_reads_130 : decode cX11_reads 130 = .ok (.istore 6, 2) := by decide +kernel
theorem dX11_reads_132 : decode cX11_reads 132 = .ok (.aload_n 0, 1) := by decide +kernel
theorem dX11_reads_133 : decode cX11_reads 133 = .ok (.iload 6, 2) := by decide +kernel
theorem dX11_reads_135 : decode cX11_reads 135 = .ok (.ifCond .eq 10, 3) := by decide +kernel
theorem dX11_reads_138 : decode cX11_reads 138 = .ok (.aload_n 0, 1) := by decide +kernel
theorem dX11_reads_139 : decode cX11_reads 139 = .ok (.getfield 150, 3) := by decide +kernel
theorem dX11_reads_142 : decode cX11_reads 142 = .ok (.goto 5, 3) := by decide +kernel
theorem dX11_reads_145 : decode cX11_reads 145 = .ok (.iload 4, 2) := by decide +kernel
theorem dX11_reads_147 : decode cX11_reads 147 = .ok (.putfield 150, 3) := by decide +kernel
theorem dX11_reads_150 : decode cX11_reads 150 = .ok (.aload_n 0, 1) := by decide +kernel
theorem dX11_reads_151 : decode cX11_reads 151 = .ok (.iload 5, 2) := by decide +kernel
theorem dX11_reads_153 : decode cX11_reads 153 = .ok (.putfield 157, 3) := by decide +kernel
theorem dX11_reads_156 : decode cX11_reads 156 = .ok (.iload 6, 2) := by decide +kernel
theorem dX11_reads_158 : decode cX11_reads 158 = .ok (.ireturn, 1) := by decide +kernel
set_option maxRecDepth 20000 in
theorem ggX11_takes_X11_here : GoodIn wsX11_takes wsX11_here := goodIn_r _ [6, 1, 7, 8, 9, 10, 11, 12, 13, 14, 15, 16, 17, 18, 19, 20, 21, 22, 23, 24, 25] (by decide +kernel) (by decide +kernel)
set_option maxRecDepth 20000 in
theorem gX11_takes_X11_here : GoodIn wsX11_takes (wsV RX11 153 RX11 yX11_here wsX11_here) := goodIn_app (goodIn_of _ (by decide +kernel)) ggX11_takes_X11_here
theorem dX11_takes_0 : decode cX11_takes 0 = .ok (.aload_n 0, 1) := by decide +kernel
theorem dX11_takes_1 : decode cX11_takes 1 = .ok (.invokevirtual 153, 3) := by decide +kernel
theorem dX11_takes_4 : decode cX11_takes 4 = .ok (.iload_n 1, 1) := by decide +kernel
theorem dX11_takes_5 : decode cX11_takes 5 = .ok (.if_icmp .ne 7, 3) := by decide +kernel
theorem dX11_takes_8 : decode cX11_takes 8 = .ok (.iconst 1, 1) := by decide +kernel
theorem dX11_takes_9 : decode cX11_takes 9 = .ok (.goto 4, 3) := by decide +kernel
theorem dX11_takes_12 : decode cX11_takes 12 = .ok (.iconst 0, 1) := by decide +kernel
theorem dX11_takes_13 : decode cX11_takes 13 = .ok (.istore_n 2, 1) := by decide +kernel
theorem dX11_takes_14 : decode cX11_takes 14 = .ok (.aload_n 0, 1) := by decide +kernel
theorem dX11_takes_15 : decode cX11_takes 15 = .ok (.dup, 1) := by decide +kernel
theorem dX11_takes_16 : decode cX11_takes 16 = .ok (.getfield 150, 3) := by decide +kernel
theorem dX11_takes_19 : decode cX11_takes 19 = .ok (.iload_n 2, 1) := by decide +kernel
theorem dX11_takes_20 : decode cX11_takes 20 = .ok (.ifCond .eq 7, 3) := by decide +kernel
theorem dX11_takes_23 : decode cX11_takes 23 = .ok (.iconst 1, 1) := by decide +kernel
theorem dX11_takes_24 : decode cX11_takes 24 = .ok (.goto 4, 3) := by decide +kernel
theorem dX11_takes_27 : decode cX11_takes 27 = .ok (.iconst 0, 1) := by decide +kernel
theorem dX11_takes_28 : decode cX11_takes 28 = .ok (.iadd, 1) := by decide +kernel
theorem dX11_takes_29 : decode cX11_takes 29 = .ok (.putfield 150, 3) := by decide +kernel
theorem dX11_takes_32 : decode cX11_takes 32 = .ok (.iload_n 2, 1) := by decide +kernel
theorem dX11_takes_33 : decode cX11_takes 33 = .ok (.ireturn, 1) := by decide +kernel
set_option maxRecDepth 20000 in
theorem ggX11_readsEntry_X11_here : GoodIn wsX11_readsEntry wsX11_here := goodIn_r _ [8, 2, 9, 10, 27, 28, 29, 30, 31, 32, 33, 34, 35, 36, 37, 38, 39, 40, 41, 42, 43] (by decide +kernel) (by decide +kernel)
set_option maxRecDepth 20000 in
theorem gX11_readsEntry_X11_here : GoodIn wsX11_readsEntry (wsV RX11 153 RX11 yX11_here wsX11_here) := goodIn_app (goodIn_of _ (by decide +kernel)) ggX11_readsEntry_X11_here
set_option maxRecDepth 20000 in
theorem ggX11_readsEntry_X11_reads : GoodIn wsX11_readsEntry wsX11_reads := goodIn_r _ [14, 2, 9, 10, 15, 3, 4, 5, 6, 7, 8, 16, 17, 18, 27, 28, 29, 30, 31, 32, 33, 34, 35, 36, 37, 38, 39, 40, 41, 42, 43] (by decide +kernel) (by decide +kernel)
set_option maxRecDepth 20000 in
theorem gX11_readsEntry_X11_reads : GoodIn wsX11_readsEntry (wsV RX11 160 RX11 yX11_reads wsX11_reads) := goodIn_app (goodIn_of _ (by decide +kernel)) ggX11_readsEntry_X11_reads
set_option maxRecDepth 20000 in
theorem ggX11_readsEntry_X11_takes : GoodIn wsX11_readsEntry wsX11_takes := goodIn_r _ [22, 2, 4, 5, 6, 7, 8, 9, 10, 27, 28, 29, 30, 31, 32, 33, 34, 35, 36, 37, 38, 39, 40, 41, 42, 43] (by decide +kernel) (by decide +kernel)
set_option maxRecDepth 20000 in
theorem gX11_readsEntry_X11_takes : GoodIn wsX11_readsEntry (wsV RX11 164 RX11 yX11_takes wsX11_takes) := goodIn_app (goodIn_of _ (by decide +kernel)) ggX11_readsEntry_X11_takes
set_option maxRecDepth 20000 in
theorem ggX11_readsEntry_X11_insert : GoodIn wsX11_readsEntry wsX11_insert := goodIn_r _ [26, 1, 27, 28, 29, 30, 31, 32, 33, 34, 35, 36, 37, 38, 39, 40, 41, 42, 43] (by decide +kernel) (by decide +kernel)
set_option maxRecDepth 20000 in
theorem gX11_readsEntry_X11_insert : GoodIn wsX11_readsEntry (wsV RX11 123 RX11 yX11_insert wsX11_insert) := goodIn_app (goodIn_of _ (by decide +kernel)) ggX11_readsEntry_X11_insert
theorem dX11_readsEntry_0 : decode cX11_readsEntry 0 = .ok (.aload_n 0, 1) := by decide +kernel
theorem dX11_readsEntry_1 : decode cX11_readsEntry 1 = .ok (.invokevirtual 153, 3) := by decide +kernel
theorem dX11_readsEntry_4 : decode cX11_readsEntry 4 = .ok (.bipush 58, 2) := by decide +kernel
theorem dX11_readsEntry_6 : decode cX11_readsEntry 6 = .ok (.if_icmp .ne 15, 3) := by decide +kernel
theorem dX11_readsEntry_9 : decode cX11_readsEntry 9 = .ok (.aload_n 0, 1) := by decide +kernel
theorem dX11_readsEntry_10 : decode cX11_readsEntry 10 = .ok (.getfield 7, 3) := by decide +kernel
theorem dX11_readsEntry_13 : decode cX11_readsEntry 13 = .ok (.bipush 43, 2) := by decide +kernel
theorem dX11_readsEntry_15 : decode cX11_readsEntry 15 = .ok (.iaload, 1) := by decide +kernel
theorem dX11_readsEntry_16 : decode cX11_readsEntry 16 = .ok (.bipush 16, 2) := by decide +kernel
theorem dX11_readsEntry_18 : decode cX11_readsEntry 18 = .ok (.if_icmp .ne 5, 3) := by decide +kernel
theorem dX11_readsEntry_21 : decode cX11_readsEntry 21 = .ok (.iconst 0, 1) := by decide +kernel
theorem dX11_readsEntry_22 : decode cX11_readsEntry 22 = .ok (.ireturn, 1) := by decide +kernel
theorem dX11_readsEntry_23 : decode cX11_readsEntry 23 = .ok (.aload_n 0, 1) := by decide +kernel
theorem dX11_readsEntry_24 : decode cX11_readsEntry 24 = .ok (.dup, 1) := by decide +kernel
theorem dX11_readsEntry_25 : decode cX11_readsEntry 25 = .ok (.getfield 150, 3) := by decide +kernel
theorem dX11_readsEntry_28 : decode cX11_readsEntry 28 = .ok (.iconst 1, 1) := by decide +kernel
theorem dX11_readsEntry_29 : decode cX11_readsEntry 29 = .ok (.iadd, 1) := by decide +kernel
theorem dX11_readsEntry_30 : decode cX11_readsEntry 30 = .ok (.putfield 150, 3) := by decide +kernel
theorem dX11_readsEntry_33 : decode cX11_readsEntry 33 = .ok (.aload_n 0, 1) := by decide +kernel
theorem dX11_readsEntry_34 : decode cX11_readsEntry 34 = .ok (.iconst 0, 1) := by decide +kernel
theorem dX11_readsEntry_35 : decode cX11_readsEntry 35 = .ok (.bipush 7, 2) := by decide +kernel
theorem dX11_readsEntry_37 : decode cX11_readsEntry 37 = .ok (.invokevirtual 160, 3) := by decide +kernel
theorem dX11_readsEntry_40 : decode cX11_readsEntry 40 = .ok (.ifCond .ne 5, 3) := by decide +kernel
theorem dX11_readsEntry_43 : decode cX11_readsEntry 43 = .ok (.iconst 0, 1) := by decide +kernel
theorem dX11_readsEntry_44 : decode cX11_readsEntry 44 = .ok (.ireturn, 1) := by decide +kernel
theorem dX11_readsEntry_45 : decode cX11_readsEntry 45 = .ok (.aload_n 0, 1) := by decide +kernel
theorem dX11_readsEntry_46 : decode cX11_readsEntry 46 = .ok (.getfield 157, 3) := by decide +kernel
theorem dX11_readsEntry_49 : decode cX11_readsEntry 49 = .ok (.istore_n 2, 1) := by decide +kernel
theorem dX11_readsEntry_50 : decode cX11_readsEntry 50 = .ok (.aload_n 0, 1) := by decide +kernel
theorem dX11_readsEntry_51 : decode cX11_readsEntry 51 = .ok (.bipush 59, 2) := by decide +kernel
theorem dX11_readsEntry_53 : decode cX11_readsEntry 53 = .ok (.invokevirtual 164, 3) := by decide +kernel
theorem dX11_readsEntry_56 : decode cX11_readsEntry 56 = .ok (.ifCond .ne 5, 3) := by decide +kernel
theorem dX11_readsEntry_59 : decode cX11_readsEntry 59 = .ok (.iconst 0, 1) := by decide +kernel
theorem dX11_readsEntry_60 : decode cX11_readsEntry 60 = .ok (.ireturn, 1) := by decide +kernel
theorem dX11_readsEntry_61 : decode cX11_readsEntry 61 = .ok (.aload_n 0, 1) := by decide +kernel
theorem dX11_readsEntry_62 : decode cX11_readsEntry 62 = .ok (.iload_n 1, 1) := by decide +kernel
theorem dX11_readsEntry_63 : decode cX11_readsEntry 63 = .ok (.iload_n 2, 1) := by decide +kernel
theorem dX11_readsEntry_64 : decode cX11_readsEntry 64 = .ok (.aload_n 0, 1) := by decide +kernel
theorem dX11_readsEntry_65 : decode cX11_readsEntry 65 = .ok (.getfield 7, 3) := by decide +kernel
theorem dX11_readsEntry_68 : decode cX11_readsEntry 68 = .ok (.bipush 43, 2) := by decide +kernel
theorem dX11_readsEntry_70 : decode cX11_readsEntry 70 = .ok (.iaload, 1) := by decide +kernel
theorem dX11_readsEntry_71 : decode cX11_readsEntry 71 = .ok (.invokevirtual 123, 3) := by decide +kernel
theorem dX11_readsEntry_74 : decode cX11_readsEntry 74 = .ok (.iconst 1, 1) := by decide +kernel
theorem dX11_readsEntry_75 : decode cX11_readsEntry 75 = .ok (.ireturn, 1) := by decide +kernel
set_option maxRecDepth 20000 in
theorem ggX11_readsResistance_X11_reads : GoodIn wsX11_readsResistance wsX11_reads := goodIn_r _ [7, 8, 9, 10, 11, 2, 12, 13, 14, 6, 15, 16, 17, 18, 23, 24, 25, 26, 27, 28, 29, 30, 31, 32, 33, 34, 35, 36, 37, 38, 39] (by decide +kernel) (by decide +kernel)
set_option maxRecDepth 20000 in
theorem gX11_readsResistance_X11_reads : GoodIn wsX11_readsResistance (wsV RX11 160 RX11 yX11_reads wsX11_reads) := goodIn_app (goodIn_of _ (by decide +kernel)) ggX11_readsResistance_X11_reads
set_option maxRecDepth 20000 in
theorem ggX11_readsResistance_X11_takes : GoodIn wsX11_readsResistance wsX11_takes := goodIn_r _ [22, 8, 12, 13, 14, 6, 15, 9, 10, 23, 24, 25, 26, 27, 28, 29, 30, 31, 32, 33, 34, 35, 36, 37, 38, 39] (by decide +kernel) (by decide +kernel)
set_option maxRecDepth 20000 in
theorem gX11_readsResistance_X11_takes : GoodIn wsX11_readsResistance (wsV RX11 164 RX11 yX11_takes wsX11_takes) := goodIn_app (goodIn_of _ (by decide +kernel)) ggX11_readsResistance_X11_takes
theorem dX11_readsResistance_0 : decode cX11_readsResistance 0 = .ok (.aload_n 0, 1) := by decide +kernel
theorem dX11_readsResistance_1 : decode cX11_readsResistance 1 = .ok (.iconst 0, 1) := by decide +kernel
theorem dX11_readsResistance_2 : decode cX11_readsResistance 2 = .ok (.bipush 31, 2) := by decide +kernel
theorem dX11_readsResistance_4 : decode cX11_readsResistance 4 = .ok (.invokevirtual 160, 3) := by decide +kernel
theorem dX11_readsResistance_7 : decode cX11_readsResistance 7 = .ok (.ifCond .ne 5, 3) := by decide +kernel
theorem dX11_readsResistance_10 : decode cX11_readsResistance 10 = .ok (.iconst 0, 1) := by decide +kernel
theorem dX11_readsResistance_11 : decode cX11_readsResistance 11 = .ok (.ireturn, 1) := by decide +kernel
theorem dX11_readsResistance_12 : decode cX11_readsResistance 12 = .ok (.aload_n 0, 1) := by decide +kernel
theorem dX11_readsResistance_13 : decode cX11_readsResistance 13 = .ok (.getfield 7, 3) := by decide +kernel
theorem dX11_readsResistance_16 : decode cX11_readsResistance 16 = .ok (.iconst 5, 1) := by decide +kernel
theorem dX11_readsResistance_17 : decode cX11_readsResistance 17 = .ok (.iload_n 1, 1) := by decide +kernel
theorem dX11_readsResistance_18 : decode cX11_readsResistance 18 = .ok (.imul, 1) := by decide +kernel
theorem dX11_readsResistance_19 : decode cX11_readsResistance 19 = .ok (.iconst 4, 1) := by decide +kernel
theorem dX11_readsResistance_20 : decode cX11_readsResistance 20 = .ok (.iadd, 1) := by decide +kernel
theorem dX11_readsResistance_21 : decode cX11_readsResistance 21 = .ok (.aload_n 0, 1) := by decide +kernel
theorem dX11_readsResistance_22 : decode cX11_readsResistance 22 = .ok (.getfield 157, 3) := by decide +kernel
theorem dX11_readsResistance_25 : decode cX11_readsResistance 25 = .ok (.iastore, 1) := by decide +kernel
theorem dX11_readsResistance_26 : decode cX11_readsResistance 26 = .ok (.aload_n 0, 1) := by decide +kernel
theorem dX11_readsResistance_27 : decode cX11_readsResistance 27 = .ok (.bipush 59, 2) := by decide +kernel
theorem dX11_readsResistance_29 : decode cX11_readsResistance 29 = .ok (.invokevirtual 164, 3) := by decide +kernel
theorem dX11_readsResistance_32 : decode cX11_readsResistance 32 = .ok (.ireturn, 1) := by decide +kernel
set_option maxRecDepth 20000 in
theorem ggX11_readsRising_X11_reads : GoodIn wsX11_readsRising wsX11_reads := goodIn_r _ [6, 7, 8, 9, 10, 1, 11, 12, 13, 5, 14, 15, 16, 17, 27, 28, 29, 30, 31, 32, 33, 34, 35, 36, 37, 38, 39, 40, 41, 42, 43] (by decide +kernel) (by decide +kernel)
set_option maxRecDepth 20000 in
theorem gX11_readsRising_X11_reads : GoodIn wsX11_readsRising (wsV RX11 160 RX11 yX11_reads wsX11_reads) := goodIn_app (goodIn_of _ (by decide +kernel)) ggX11_readsRising_X11_reads
set_option maxRecDepth 20000 in
theorem ggX11_readsRising_X11_putSource : GoodIn wsX11_readsRising wsX11_putSource := goodIn_r _ [21, 22, 27, 28, 29, 30, 31, 32, 33, 34, 35, 36, 37, 38, 39, 40, 41, 42, 43] (by decide +kernel) (by decide +kernel)
set_option maxRecDepth 20000 in
theorem gX11_readsRising_X11_putSource : GoodIn wsX11_readsRising (wsV RX11 115 RX11 yX11_putSource wsX11_putSource) := goodIn_app (goodIn_of _ (by decide +kernel)) ggX11_readsRising_X11_putSource
set_option maxRecDepth 20000 in
theorem ggX11_readsRising_X11_takes : GoodIn wsX11_readsRising wsX11_takes := goodIn_r _ [26, 7, 11, 12, 13, 5, 14, 8, 9, 27, 28, 29, 30, 31, 32, 33, 34, 35, 36, 37, 38, 39, 40, 41, 42, 43] (by decide +kernel) (by decide +kernel)
set_option maxRecDepth 20000 in
theorem gX11_readsRising_X11_takes : GoodIn wsX11_readsRising (wsV RX11 164 RX11 yX11_takes wsX11_takes) := goodIn_app (goodIn_of _ (by decide +kernel)) ggX11_readsRising_X11_takes
theorem dX11_readsRising_0 : decode cX11_readsRising 0 = .ok (.aload_n 0, 1) := by decide +kernel
theorem dX11_readsRising_1 : decode cX11_readsRising 1 = .ok (.iconst 0, 1) := by decide +kernel
theorem dX11_readsRising_2 : decode cX11_readsRising 2 = .ok (.bipush 64, 2) := by decide +kernel
theorem dX11_readsRising_4 : decode cX11_readsRising 4 = .ok (.invokevirtual 160, 3) := by decide +kernel
theorem dX11_readsRising_7 : decode cX11_readsRising 7 = .ok (.ifCond .ne 5, 3) := by decide +kernel
theorem dX11_readsRising_10 : decode cX11_readsRising 10 = .ok (.iconst 0, 1) := by decide +kernel
theorem dX11_readsRising_11 : decode cX11_readsRising 11 = .ok (.ireturn, 1) := by decide +kernel
theorem dX11_readsRising_12 : decode cX11_readsRising 12 = .ok (.aload_n 0, 1) := by decide +kernel
theorem dX11_readsRising_13 : decode cX11_readsRising 13 = .ok (.iload_n 1, 1) := by decide +kernel
theorem dX11_readsRising_14 : decode cX11_readsRising 14 = .ok (.iconst 1, 1) := by decide +kernel
theorem dX11_readsRising_15 : decode cX11_readsRising 15 = .ok (.iload_n 2, 1) := by decide +kernel
theorem dX11_readsRising_16 : decode cX11_readsRising 16 = .ok (.iload_n 3, 1) := by decide +kernel
theorem dX11_readsRising_17 : decode cX11_readsRising 17 = .ok (.aload_n 0, 1) := by decide +kernel
theorem dX11_readsRising_18 : decode cX11_readsRising 18 = .ok (.getfield 157, 3) := by decide +kernel
theorem dX11_readsRising_21 : decode cX11_readsRising 21 = .ok (.imul, 1) := by decide +kernel
theorem dX11_readsRising_22 : decode cX11_readsRising 22 = .ok (.iconst 0, 1) := by decide +kernel
theorem dX11_readsRising_23 : decode cX11_readsRising 23 = .ok (.invokevirtual 115, 3) := by decide +kernel
theorem dX11_readsRising_26 : decode cX11_readsRising 26 = .ok (.aload_n 0, 1) := by decide +kernel
theorem dX11_readsRising_27 : decode cX11_readsRising 27 = .ok (.bipush 59, 2) := by decide +kernel
theorem dX11_readsRising_29 : decode cX11_readsRising 29 = .ok (.invokevirtual 164, 3) := by decide +kernel
theorem dX11_readsRising_32 : decode cX11_readsRising 32 = .ok (.ireturn, 1) := by decide +kernel
set_option maxRecDepth 20000 in
theorem ggX11_readsJumping_X11_reads : GoodIn wsX11_readsJumping wsX11_reads := goodIn_r _ [6, 7, 8, 9, 10, 1, 11, 12, 13, 5, 14, 15, 16, 17, 27, 28, 29, 30, 31, 32, 33, 34, 35, 36, 37, 38, 39, 40, 41, 42, 43] (by decide +kernel) (by decide +kernel)
set_option maxRecDepth 20000 in
theorem gX11_readsJumping_X11_reads : GoodIn wsX11_readsJumping (wsV RX11 160 RX11 yX11_reads wsX11_reads) := goodIn_app (goodIn_of _ (by decide +kernel)) ggX11_readsJumping_X11_reads
set_option maxRecDepth 20000 in
theorem ggX11_readsJumping_X11_takes : GoodIn wsX11_readsJumping wsX11_takes := goodIn_r _ [21, 7, 11, 12, 13, 5, 14, 8, 9, 27, 28, 29, 30, 31, 32, 33, 34, 35, 36, 37, 38, 39, 40, 41, 42, 43] (by decide +kernel) (by decide +kernel)
set_option maxRecDepth 20000 in
theorem gX11_readsJumping_X11_takes : GoodIn wsX11_readsJumping (wsV RX11 164 RX11 yX11_takes wsX11_takes) := goodIn_app (goodIn_of _ (by decide +kernel)) ggX11_readsJumping_X11_takes
set_option maxRecDepth 20000 in
theorem ggX11_readsJumping_X11_putSource : GoodIn wsX11_readsJumping wsX11_putSource := goodIn_r _ [25, 26, 27, 28, 29, 30, 31, 32, 33, 34, 35, 36, 37, 38, 39, 40, 41, 42, 43] (by decide +kernel) (by decide +kernel)
set_option maxRecDepth 20000 in
theorem gX11_readsJumping_X11_putSource : GoodIn wsX11_readsJumping (wsV RX11 115 RX11 yX11_putSource wsX11_putSource) := goodIn_app (goodIn_of _ (by decide +kernel)) ggX11_readsJumping_X11_putSource
theorem dX11_readsJumping_0 : decode cX11_readsJumping 0 = .ok (.aload_n 0, 1) := by decide +kernel
theorem dX11_readsJumping_1 : decode cX11_readsJumping 1 = .ok (.iconst 0, 1) := by decide +kernel
theorem dX11_readsJumping_2 : decode cX11_readsJumping 2 = .ok (.sipush 4095, 3) := by decide +kernel
theorem dX11_readsJumping_5 : decode cX11_readsJumping 5 = .ok (.invokevirtual 160, 3) := by decide +kernel
theorem dX11_readsJumping_8 : decode cX11_readsJumping 8 = .ok (.ifCond .ne 5, 3) := by decide +kernel
theorem dX11_readsJumping_11 : decode cX11_readsJumping 11 = .ok (.iconst 0, 1) := by decide +kernel
theorem dX11_readsJumping_12 : decode cX11_readsJumping 12 = .ok (.ireturn, 1) := by decide +kernel
theorem dX11_readsJumping_13 : decode cX11_readsJumping 13 = .ok (.aload_n 0, 1) := by decide +kernel
theorem dX11_readsJumping_14 : decode cX11_readsJumping 14 = .ok (.getfield 157, 3) := by decide +kernel
theorem dX11_readsJumping_17 : decode cX11_readsJumping 17 = .ok (.istore_n 3, 1) := by decide +kernel
theorem dX11_readsJumping_18 : decode cX11_readsJumping 18 = .ok (.aload_n 0, 1) := by decide +kernel
theorem dX11_readsJumping_19 : decode cX11_readsJumping 19 = .ok (.bipush 47, 2) := by decide +kernel
theorem dX11_readsJumping_21 : decode cX11_readsJumping 21 = .ok (.invokevirtual 164, 3) := by decide +kernel
theorem dX11_readsJumping_24 : decode cX11_readsJumping 24 = .ok (.ifCond .eq 14, 3) := by decide +kernel
theorem dX11_readsJumping_27 : decode cX11_readsJumping 27 = .ok (.aload_n 0, 1) := by decide +kernel
theorem dX11_readsJumping_28 : decode cX11_readsJumping 28 = .ok (.iconst 2, 1) := by decide +kernel
theorem dX11_readsJumping_29 : decode cX11_readsJumping 29 = .ok (.sipush 200, 3) := by decide +kernel
theorem dX11_readsJumping_32 : decode cX11_readsJumping 32 = .ok (.invokevirtual 160, 3) := by decide +kernel
theorem dX11_readsJumping_35 : decode cX11_readsJumping 35 = .ok (.ifCond .ne 5, 3) := by decide +kernel
theorem dX11_readsJumping_38 : decode cX11_readsJumping 38 = .ok (.iconst 0, 1) := by decide +kernel
theorem dX11_readsJumping_39 : decode cX11_readsJumping 39 = .ok (.ireturn, 1) := by decide +kernel
theorem dX11_readsJumping_40 : decode cX11_readsJumping 40 = .ok (.aload_n 0, 1) := by decide +kernel
theorem dX11_readsJumping_41 : decode cX11_readsJumping 41 = .ok (.iload_n 1, 1) := by decide +kernel
theorem dX11_readsJumping_42 : decode cX11_readsJumping 42 = .ok (.iconst 2, 1) := by decide +kernel
theorem dX11_readsJumping_43 : decode cX11_readsJumping 43 = .ok (.iload_n 2, 1) := by decide +kernel
theorem dX11_readsJumping_44 : decode cX11_readsJumping 44 = .ok (.iload_n 3, 1) := by decide +kernel
theorem dX11_readsJumping_45 : decode cX11_readsJumping 45 = .ok (.aload_n 0, 1) := by decide +kernel
theorem dX11_readsJumping_46 : decode cX11_readsJumping 46 = .ok (.getfield 157, 3) := by decide +kernel
theorem dX11_readsJumping_49 : decode cX11_readsJumping 49 = .ok (.invokevirtual 115, 3) := by decide +kernel
theorem dX11_readsJumping_52 : decode cX11_readsJumping 52 = .ok (.aload_n 0, 1) := by decide +kernel
theorem dX11_readsJumping_53 : decode cX11_readsJumping 53 = .ok (.bipush 59, 2) := by decide +kernel
theorem dX11_readsJumping_55 : decode cX11_readsJumping 55 = .ok (.invokevirtual 164, 3) := by decide +kernel
theorem dX11_readsJumping_58 : decode cX11_readsJumping 58 = .ok (.ireturn, 1) := by decide +kernel
set_option maxRecDepth 20000 in
theorem ggX11_readsSource_X11_reads : GoodIn wsX11_readsSource wsX11_reads := goodIn_r _ [6, 7, 8, 9, 10, 1, 11, 12, 13, 5, 14, 15, 16, 17, 35, 36, 37, 38, 39, 40, 41, 42, 43, 44, 45, 46, 47, 48, 49, 50, 51] (by decide +kernel) (by decide +kernel)
set_option maxRecDepth 20000 in
theorem gX11_readsSource_X11_reads : GoodIn wsX11_readsSource (wsV RX11 160 RX11 yX11_reads wsX11_reads) := goodIn_app (goodIn_of _ (by decide +kernel)) ggX11_readsSource_X11_reads
set_option maxRecDepth 20000 in
theorem ggX11_readsSource_X11_takes : GoodIn wsX11_readsSource wsX11_takes := goodIn_r _ [21, 7, 11, 12, 13, 5, 14, 8, 9, 35, 36, 37, 38, 39, 40, 41, 42, 43, 44, 45, 46, 47, 48, 49, 50, 51] (by decide +kernel) (by decide +kernel)
set_option maxRecDepth 20000 in
theorem gX11_readsSource_X11_takes : GoodIn wsX11_readsSource (wsV RX11 164 RX11 yX11_takes wsX11_takes) := goodIn_app (goodIn_of _ (by decide +kernel)) ggX11_readsSource_X11_takes
set_option maxRecDepth 20000 in
theorem ggX11_readsSource_X11_readsRising : GoodIn wsX11_readsSource wsX11_readsRising := goodIn_r _ [25, 1, 2, 3, 4, 5, 6, 7, 8, 9, 10, 11, 12, 13, 14, 15, 16, 17, 26, 27, 28, 29, 30, 18, 19, 20, 21, 35, 36, 37, 38, 39, 40, 41, 42, 43, 44, 45, 46, 47, 48, 49, 50, 51] (by decide +kernel) (by decide +kernel)
set_option maxRecDepth 20000 in
theorem gX11_readsSource_X11_readsRising : GoodIn wsX11_readsSource (wsV RX11 167 RX11 yX11_readsRising wsX11_readsRising) := goodIn_app (goodIn_of _ (by decide +kernel)) ggX11_readsSource_X11_readsRising
set_option maxRecDepth 20000 in
theorem ggX11_readsSource_X11_readsJumping : GoodIn wsX11_readsSource wsX11_readsJumping := goodIn_r _ [34, 1, 2, 3, 4, 5, 6, 7, 8, 9, 10, 11, 12, 13, 14, 15, 16, 17, 18, 19, 20, 21, 26, 27, 28, 29, 30, 35, 36, 37, 38, 39, 40, 41, 42, 43, 44, 45, 46, 47, 48, 49, 50, 51] (by decide +kernel) (by decide +kernel)
set_option maxRecDepth 20000 in
theorem gX11_readsSource_X11_readsJumping : GoodIn wsX11_readsSource (wsV RX11 170 RX11 yX11_readsJumping wsX11_readsJumping) := goodIn_app (goodIn_of _ (by decide +kernel)) ggX11_readsSource_X11_readsJumping
set_option maxRecDepth 20000 in
theorem ggX11_readsSource_X11_putSource : GoodIn wsX11_readsSource wsX11_putSource := goodIn_r _ [29, 30, 35, 36, 37, 38, 39, 40, 41, 42, 43, 44, 45, 46, 47, 48, 49, 50, 51] (by decide +kernel) (by decide +kernel)
set_option maxRecDepth 20000 in
theorem gX11_readsSource_X11_putSource : GoodIn wsX11_readsSource (wsV RX11 115 RX11 yX11_putSource wsX11_putSource) := goodIn_app (goodIn_of _ (by decide +kernel)) ggX11_readsSource_X11_putSource
theorem dX11_readsSource_0 : decode cX11_readsSource 0 = .ok (.aload_n 0, 1) := by decide +kernel
theorem dX11_readsSource_1 : decode cX11_readsSource 1 = .ok (.iconst 0, 1) := by decide +kernel
theorem dX11_readsSource_2 : decode cX11_readsSource 2 = .ok (.sipush 4095, 3) := by decide +kernel
theorem dX11_readsSource_5 : decode cX11_readsSource 5 = .ok (.invokevirtual 160, 3) := by decide +kernel
theorem dX11_readsSource_8 : decode cX11_readsSource 8 = .ok (.ifCond .ne 5, 3) := by decide +kernel
theorem dX11_readsSource_11 : decode cX11_readsSource 11 = .ok (.iconst 0, 1) := by decide +kernel
theorem dX11_readsSource_12 : decode cX11_readsSource 12 = .ok (.ireturn, 1) := by decide +kernel
theorem dX11_readsSource_13 : decode cX11_readsSource 13 = .ok (.aload_n 0, 1) := by decide +kernel
theorem dX11_readsSource_14 : decode cX11_readsSource 14 = .ok (.getfield 157, 3) := by decide +kernel
theorem dX11_readsSource_17 : decode cX11_readsSource 17 = .ok (.istore_n 2, 1) := by decide +kernel
theorem dX11_readsSource_18 : decode cX11_readsSource 18 = .ok (.aload_n 0, 1) := by decide +kernel
theorem dX11_readsSource_19 : decode cX11_readsSource 19 = .ok (.bipush 43, 2) := by decide +kernel
theorem dX11_readsSource_21 : decode cX11_readsSource 21 = .ok (.invokevirtual 164, 3) := by decide +kernel
theorem dX11_readsSource_24 : decode cX11_readsSource 24 = .ok (.ifCond .eq 11, 3) := by decide +kernel
theorem dX11_readsSource_27 : decode cX11_readsSource 27 = .ok (.aload_n 0, 1) := by decide +kernel
theorem dX11_readsSource_28 : decode cX11_readsSource 28 = .ok (.iload_n 1, 1) := by decide +kernel
theorem dX11_readsSource_29 : decode cX11_readsSource 29 = .ok (.iload_n 2, 1) := by decide +kernel
theorem dX11_readsSource_30 : decode cX11_readsSource 30 = .ok (.iconst 1, 1) := by decide +kernel
theorem dX11_readsSource_31 : decode cX11_readsSource 31 = .ok (.invokevirtual 167, 3) := by decide +kernel
theorem dX11_readsSource_34 : decode cX11_readsSource 34 = .ok (.ireturn, 1) := by decide +kernel
theorem dX11_readsSource_35 : decode cX11_readsSource 35 = .ok (.aload_n 0, 1) := by decide +kernel
theorem dX11_readsSource_36 : decode cX11_readsSource 36 = .ok (.bipush 45, 2) := by decide +kernel
theorem dX11_readsSource_38 : decode cX11_readsSource 38 = .ok (.invokevirtual 164, 3) := by decide +kernel
theorem dX11_readsSource_41 : decode cX11_readsSource 41 = .ok (.ifCond .eq 11, 3) := by decide +kernel
theorem dX11_readsSource_44 : decode cX11_readsSource 44 = .ok (.aload_n 0, 1) := by decide +kernel
theorem dX11_readsSource_45 : decode cX11_readsSource 45 = .ok (.iload_n 1, 1) := by decide +kernel
theorem dX11_readsSource_46 : decode cX11_readsSource 46 = .ok (.iload_n 2, 1) := by decide +kernel
theorem dX11_readsSource_47 : decode cX11_readsSource 47 = .ok (.iconst (-1), 1) := by decide +kernel
theorem dX11_readsSource_48 : decode cX11_readsSource 48 = .ok (.invokevirtual 167, 3) := by decide +kernel
theorem dX11_readsSource_51 : decode cX11_readsSource 51 = .ok (.ireturn, 1) := by decide +kernel
theorem dX11_readsSource_52 : decode cX11_readsSource 52 = .ok (.aload_n 0, 1) := by decide +kernel
theorem dX11_readsSource_53 : decode cX11_readsSource 53 = .ok (.bipush 44, 2) := by decide +kernel
theorem dX11_readsSource_55 : decode cX11_readsSource 55 = .ok (.invokevirtual 164, 3) := by decide +kernel
theorem dX11_readsSource_58 : decode cX11_readsSource 58 = .ok (.ifCond .eq 10, 3) := by decide +kernel
theorem dX11_readsSource_61 : decode cX11_readsSource 61 = .ok (.aload_n 0, 1) := by decide +kernel
theorem dX11_readsSource_62 : decode cX11_readsSource 62 = .ok (.iload_n 1, 1) := by decide +kernel
theorem dX11_readsSource_63 : decode cX11_readsSource 63 = .ok (.iload_n 2, 1) := by decide +kernel
theorem dX11_readsSource_64 : decode cX11_readsSource 64 = .ok (.invokevirtual 170, 3) := by decide +kernel
theorem dX11_readsSource_67 : decode cX11_readsSource 67 = .ok (.ireturn, 1) := by decide +kernel
theorem dX11_readsSource_68 : decode cX11_readsSource 68 = .ok (.aload_n 0, 1) := by decide +kernel
theorem dX11_readsSource_69 : decode cX11_readsSource 69 = .ok (.iload_n 1, 1) := by decide +kernel
theorem dX11_readsSource_70 : decode cX11_readsSource 70 = .ok (.iconst 0, 1) := by decide +kernel
theorem dX11_readsSource_71 : decode cX11_readsSource 71 = .ok (.iload_n 2, 1) := by decide +kernel
theorem dX11_readsSource_72 : decode cX11_readsSource 72 = .ok (.iconst 0, 1) := by decide +kernel
theorem dX11_readsSource_73 : decode cX11_readsSource 73 = .ok (.iconst 0, 1) := by decide +kernel
theorem dX11_readsSource_74 : decode cX11_readsSource 74 = .ok (.invokevirtual 115, 3) := by decide +kernel
theorem dX11_readsSource_77 : decode cX11_readsSource 77 = .ok (.aload_n 0, 1) := by decide +kernel
theorem dX11_readsSource_78 : decode cX11_readsSource 78 = .ok (.bipush 59, 2) := by decide +kernel
theorem dX11_readsSource_80 : decode cX11_readsSource 80 = .ok (.invokevirtual 164, 3) := by decide +kernel
theorem dX11_readsSource_83 : decode cX11_readsSource 83 = .ok (.ireturn, 1) := by decide +kernel
set_option maxRecDepth 20000 in
theorem ggX11_readsItem_X11_takes : GoodIn wsX11_readsItem wsX11_takes := goodIn_r _ [6, 7, 8, 9, 10, 5, 11, 12, 13, 51, 52, 53, 54, 55, 56, 57, 58, 59, 60, 61, 62, 63, 64, 65, 66, 67] (by decide +kernel) (by decide +kernel)
set_option maxRecDepth 20000 in
theorem gX11_readsItem_X11_takes : GoodIn wsX11_readsItem (wsV RX11 164 RX11 yX11_takes wsX11_takes) := goodIn_app (goodIn_of _ (by decide +kernel)) ggX11_readsItem_X11_takes
set_option maxRecDepth 20000 in
theorem ggX11_readsItem_X11_readsEntry : GoodIn wsX11_readsItem wsX11_readsEntry := goodIn_r _ [17, 18, 7, 1, 8, 9, 10, 5, 11, 12, 13, 19, 20, 21, 22, 23, 24, 25, 26, 2, 3, 4, 6, 27, 28, 29, 30, 51, 52, 53, 54, 55, 56, 57, 58, 59, 60, 61, 62, 63, 64, 65, 66, 67] (by decide +kernel) (by decide +kernel)
set_option maxRecDepth 20000 in
theorem gX11_readsItem_X11_readsEntry : GoodIn wsX11_readsItem (wsV RX11 173 RX11 yX11_readsEntry wsX11_readsEntry) := goodIn_app (goodIn_of _ (by decide +kernel)) ggX11_readsItem_X11_readsEntry
set_option maxRecDepth 20000 in
theorem ggX11_readsItem_X11_reads : GoodIn wsX11_readsItem wsX11_reads := goodIn_r _ [22, 7, 12, 13, 23, 1, 8, 9, 10, 5, 11, 24, 25, 26, 51, 52, 53, 54, 55, 56, 57, 58, 59, 60, 61, 62, 63, 64, 65, 66, 67] (by decide +kernel) (by decide +kernel)
set_option maxRecDepth 20000 in
theorem gX11_readsItem_X11_reads : GoodIn wsX11_readsItem (wsV RX11 160 RX11 yX11_reads wsX11_reads) := goodIn_app (goodIn_of _ (by decide +kernel)) ggX11_readsItem_X11_reads
set_option maxRecDepth 20000 in
theorem ggX11_readsItem_X11_readsSource : GoodIn wsX11_readsItem wsX11_readsSource := goodIn_r _ [34, 1, 19, 20, 21, 5, 22, 7, 12, 13, 23, 8, 9, 10, 11, 24, 25, 26, 2, 3, 4, 6, 35, 36, 37, 38, 39, 40, 41, 42, 18, 43, 44, 45, 46, 51, 52, 53, 54, 55, 56, 57, 58, 59, 60, 61, 62, 63, 64, 65, 66, 67] (by decide +kernel) (by decide +kernel)
set_option maxRecDepth 20000 in
theorem gX11_readsItem_X11_readsSource : GoodIn wsX11_readsItem (wsV RX11 176 RX11 yX11_readsSource wsX11_readsSource) := goodIn_app (goodIn_of _ (by decide +kernel)) ggX11_readsItem_X11_readsSource
set_option maxRecDepth 20000 in
theorem ggX11_readsItem_X11_readsResistance : GoodIn wsX11_readsItem wsX11_readsResistance := goodIn_r _ [50, 18, 1, 19, 20, 21, 5, 22, 7, 12, 13, 23, 8, 9, 10, 11, 24, 25, 26, 2, 3, 4, 6, 51, 52, 53, 54, 55, 56, 57, 58, 59, 60, 61, 62, 63, 64, 65, 66, 67] (by decide +kernel) (by decide +kernel)
set_option maxRecDepth 20000 in
theorem gX11_readsItem_X11_readsResistance : GoodIn wsX11_readsItem (wsV RX11 179 RX11 yX11_readsResistance wsX11_readsResistance) := goodIn_app (goodIn_of _ (by decide +kernel)) ggX11_readsItem_X11_readsResistance
theorem dX11_readsItem_0 : decode cX11_readsItem 0 = .ok (.aload_n 0, 1) := by decide +kernel
theorem dX11_readsItem_1 : decode cX11_readsItem 1 = .ok (.bipush 103, 2) := by decide +kernel
theorem dX11_readsItem_3 : decode cX11_readsItem 3 = .ok (.invokevirtual 164, 3) := by decide +kernel
theorem dX11_readsItem_6 : decode cX11_readsItem 6 = .ok (.ifCond .eq 10, 3) := by decide +kernel
theorem dX11_readsItem_9 : decode cX11_readsItem 9 = .ok (.aload_n 0, 1) := by decide +kernel
theorem dX11_readsItem_10 : decode cX11_readsItem 10 = .ok (.bipush 8, 2) := by decide +kernel
theorem dX11_readsItem_12 : decode cX11_readsItem 12 = .ok (.invokevirtual 173, 3) := by decide +kernel
theorem dX11_readsItem_15 : decode cX11_readsItem 15 = .ok (.ireturn, 1) := by decide +kernel
theorem dX11_readsItem_16 : decode cX11_readsItem 16 = .ok (.aload_n 0, 1) := by decide +kernel
theorem dX11_readsItem_17 : decode cX11_readsItem 17 = .ok (.bipush 102, 2) := by decide +kernel
theorem dX11_readsItem_19 : decode cX11_readsItem 19 = .ok (.invokevirtual 164, 3) := by decide +kernel
theorem dX11_readsItem_22 : decode cX11_readsItem 22 = .ok (.ifCond .eq 10, 3) := by decide +kernel
theorem dX11_readsItem_25 : decode cX11_readsItem 25 = .ok (.aload_n 0, 1) := by decide +kernel
theorem dX11_readsItem_26 : decode cX11_readsItem 26 = .ok (.bipush 9, 2) := by decide +kernel
theorem dX11_readsItem_28 : decode cX11_readsItem 28 = .ok (.invokevirtual 173, 3) := by decide +kernel
theorem dX11_readsItem_31 : decode cX11_readsItem 31 = .ok (.ireturn, 1) := by decide +kernel
theorem dX11_readsItem_32 : decode cX11_readsItem 32 = .ok (.aload_n 0, 1) := by decide +kernel
theorem dX11_readsItem_33 : decode cX11_readsItem 33 = .ok (.iconst 0, 1) := by decide +kernel
theorem dX11_readsItem_34 : decode cX11_readsItem 34 = .ok (.bipush 7, 2) := by decide +kernel
theorem dX11_readsItem_36 : decode cX11_readsItem 36 = .ok (.invokevirtual 160, 3) := by decide +kernel
theorem dX11_readsItem_39 : decode cX11_readsItem 39 = .ok (.ifCond .ne 5, 3) := by decide +kernel
theorem dX11_readsItem_42 : decode cX11_readsItem 42 = .ok (.iconst 0, 1) := by decide +kernel
theorem dX11_readsItem_43 : decode cX11_readsItem 43 = .ok (.ireturn, 1) := by decide +kernel
theorem dX11_readsItem_44 : decode cX11_readsItem 44 = .ok (.aload_n 0, 1) := by decide +kernel
theorem dX11_readsItem_45 : decode cX11_readsItem 45 = .ok (.getfield 157, 3) := by decide +kernel
theorem dX11_readsItem_48 : decode cX11_readsItem 48 = .ok (.istore_n 1, 1) := by decide +kernel
theorem dX11_readsItem_49 : decode cX11_readsItem 49 = .ok (.aload_n 0, 1) := by decide +kernel
theorem dX11_readsItem_50 : decode cX11_readsItem 50 = .ok (.bipush 61, 2) := by decide +kernel
theorem dX11_readsItem_52 : decode cX11_readsItem 52 = .ok (.invokevirtual 164, 3) := by decide +kernel
theorem dX11_readsItem_55 : decode cX11_readsItem 55 = .ok (.ifCond .eq 9, 3) := by decide +kernel
theorem dX11_readsItem_58 : decode cX11_readsItem 58 = .ok (.aload_n 0, 1) := by decide +kernel
theorem dX11_readsItem_59 : decode cX11_readsItem 59 = .ok (.iload_n 1, 1) := by decide +kernel
theorem dX11_readsItem_60 : decode cX11_readsItem 60 = .ok (.invokevirtual 176, 3) := by decide +kernel
theorem dX11_readsItem_63 : decode cX11_readsItem 63 = .ok (.ireturn, 1) := by decide +kernel
theorem dX11_readsItem_64 : decode cX11_readsItem 64 = .ok (.aload_n 0, 1) := by decide +kernel
theorem dX11_readsItem_65 : decode cX11_readsItem 65 = .ok (.bipush 114, 2) := by decide +kernel
theorem dX11_readsItem_67 : decode cX11_readsItem 67 = .ok (.invokevirtual 164, 3) := by decide +kernel
theorem dX11_readsItem_70 : decode cX11_readsItem 70 = .ok (.ifCond .eq 11, 3) := by decide +kernel
theorem dX11_readsItem_73 : decode cX11_readsItem 73 = .ok (.aload_n 0, 1) := by decide +kernel
theorem dX11_readsItem_74 : decode cX11_readsItem 74 = .ok (.iload_n 1, 1) := by decide +kernel
theorem dX11_readsItem_75 : decode cX11_readsItem 75 = .ok (.invokevirtual 179, 3) := by decide +kernel
theorem dX11_readsItem_78 : decode cX11_readsItem 78 = .ok (.goto 8, 3) := by decide +kernel
theorem dX11_readsItem_81 : decode cX11_readsItem 81 = .ok (.aload_n 0, 1) := by decide +kernel
theorem dX11_readsItem_82 : decode cX11_readsItem 82 = .ok (.iload_n 1, 1) := by decide +kernel
theorem dX11_readsItem_83 : decode cX11_readsItem 83 = .ok (.invokevirtual 173, 3) := by decide +kernel
theorem dX11_readsItem_86 : decode cX11_readsItem 86 = .ok (.ireturn, 1) := by decide +kernel
set_option maxRecDepth 20000 in
theorem ggX11_load_X11_hold : GoodIn wsX11_load wsX11_hold := goodIn_r _ [9, 10, 11, 74, 75, 76, 77, 78, 79, 80, 81, 82, 83, 84, 85, 86, 87, 88, 89, 90] (by decide +kernel) (by decide +kernel)
set_option maxRecDepth 20000 in
theorem gX11_load_X11_hold : GoodIn wsX11_load (wsV RX11 182 RX11 yX11_hold wsX11_hold) := goodIn_app (goodIn_of _ (by decide +kernel)) ggX11_load_X11_hold
set_option maxRecDepth 20000 in
theorem ggX11_load_X11_here : GoodIn wsX11_load wsX11_here := goodIn_r _ [15, 2, 4, 16, 74, 75, 76, 77, 78, 79, 80, 81, 82, 83, 84, 85, 86, 87, 88, 89, 90] (by decide +kernel) (by decide +kernel)
set_option maxRecDepth 20000 in
theorem gX11_load_X11_here : GoodIn wsX11_load (wsV RX11 153 RX11 yX11_here wsX11_here) := goodIn_app (goodIn_of _ (by decide +kernel)) ggX11_load_X11_here
set_option maxRecDepth 20000 in
theorem ggX11_load_X11_readsItem : GoodIn wsX11_load wsX11_readsItem := goodIn_r _ [20, 21, 22, 23, 24, 8, 25, 2, 12, 13, 14, 15, 4, 16, 26, 27, 28, 29, 11, 30, 31, 32, 33, 34, 35, 36, 37, 38, 39, 40, 41, 42, 43, 44, 45, 46, 47, 48, 49, 50, 51, 52, 53, 54, 55, 56, 57, 58, 59, 60, 61, 74, 75, 76, 77, 78, 79, 80, 81, 82, 83, 84, 85, 86, 87, 88, 89, 90] (by decide +kernel) (by decide +kernel)
set_option maxRecDepth 20000 in
theorem gX11_load_X11_readsItem : GoodIn wsX11_load (wsV RX11 185 RX11 yX11_readsItem wsX11_readsItem) := goodIn_app (goodIn_of _ (by decide +kernel)) ggX11_load_X11_readsItem
set_option maxRecDepth 20000 in
theorem ggX11_load_X11_exchange : GoodIn wsX11_load wsX11_exchange := goodIn_r _ [65, 11, 10, 74, 75, 76, 77, 78, 79, 80, 81, 82, 83, 84, 85, 86, 87, 88, 89, 90] (by decide +kernel) (by decide +kernel)
set_option maxRecDepth 20000 in
theorem gX11_load_X11_exchange : GoodIn wsX11_load (wsV RX11 189 RX11 yX11_exchange wsX11_exchange) := goodIn_app (goodIn_of _ (by decide +kernel)) ggX11_load_X11_exchange
set_option maxRecDepth 20000 in
theorem ggX11_load_X11_act : GoodIn wsX11_load wsX11_act := goodIn_r _ [69, 70, 71, 72, 11, 73, 74, 75, 76, 77, 78, 79, 80, 81, 82, 83, 84, 85, 86, 87, 88, 89, 90] (by decide +kernel) (by decide +kernel)
set_option maxRecDepth 20000 in
theorem gX11_load_X11_act : GoodIn wsX11_load (wsV RX11 112 RX11 yX11_act wsX11_act) := goodIn_app (goodIn_of _ (by decide +kernel)) ggX11_load_X11_act
theorem dX11_load_0 : decode cX11_load 0 = .ok (.aload_n 0, 1) := by decide +kernel
theorem dX11_load_1 : decode cX11_load 1 = .ok (.iconst 0, 1) := by decide +kernel
theorem dX11_load_2 : decode cX11_load 2 = .ok (.putfield 29, 3) := by decide +kernel
theorem dX11_load_5 : decode cX11_load 5 = .ok (.aload_n 0, 1) := by decide +kernel
theorem dX11_load_6 : decode cX11_load 6 = .ok (.invokevirtual 182, 3) := by decide +kernel
theorem dX11_load_9 : decode cX11_load 9 = .ok (.aload_n 0, 1) := by decide +kernel
theorem dX11_load_10 : decode cX11_load 10 = .ok (.iconst 0, 1) := by decide +kernel
theorem dX11_load_11 : decode cX11_load 11 = .ok (.putfield 150, 3) := by decide +kernel
theorem dX11_load_14 : decode cX11_load 14 = .ok (.iconst 0, 1) := by decide +kernel
theorem dX11_load_15 : decode cX11_load 15 = .ok (.istore_n 1, 1) := by decide +kernel
theorem dX11_load_16 : decode cX11_load 16 = .ok (.iconst 1, 1) := by decide +kernel
theorem dX11_load_17 : decode cX11_load 17 = .ok (.istore_n 2, 1) := by decide +kernel
theorem dX11_load_18 : decode cX11_load 18 = .ok (.iload_n 2, 1) := by decide +kernel
theorem dX11_load_19 : decode cX11_load 19 = .ok (.ifCond .eq 21, 3) := by decide +kernel
theorem dX11_load_22 : decode cX11_load 22 = .ok (.aload_n 0, 1) := by decide +kernel
theorem dX11_load_23 : decode cX11_load 23 = .ok (.invokevirtual 153, 3) := by decide +kernel
theorem dX11_load_26 : decode cX11_load 26 = .ok (.ifCond .lt 14, 3) := by decide +kernel
theorem dX11_load_29 : decode cX11_load 29 = .ok (.aload_n 0, 1) := by decide +kernel
theorem dX11_load_30 : decode cX11_load 30 = .ok (.invokevirtual 185, 3) := by decide +kernel
theorem dX11_load_33 : decode cX11_load 33 = .ok (.istore_n 2, 1) := by decide +kernel
theorem dX11_load_34 : decode cX11_load 34 = .ok (.iinc 1 1, 3) := by decide +kernel
theorem dX11_load_37 : decode cX11_load 37 = .ok (.goto (-19), 3) := by decide +kernel
theorem dX11_load_40 : decode cX11_load 40 = .ok (.aload_n 0, 1) := by decide +kernel
theorem dX11_load_41 : decode cX11_load 41 = .ok (.invokevirtual 189, 3) := by decide +kernel
theorem dX11_load_44 : decode cX11_load 44 = .ok (.iload_n 2, 1) := by decide +kernel
theorem dX11_load_45 : decode cX11_load 45 = .ok (.ifCond .ne 11, 3) := by decide +kernel
theorem dX11_load_48 : decode cX11_load 48 = .ok (.ldc 192, 2) := by decide +kernel
theorem dX11_load_50 : decode cX11_load 50 = .ok (.aload_n 0, 1) := by decide +kernel
theorem dX11_load_51 : decode cX11_load 51 = .ok (.getfield 150, 3) := by decide +kernel
theorem dX11_load_54 : decode cX11_load 54 = .ok (.isub, 1) := by decide +kernel
theorem dX11_load_55 : decode cX11_load 55 = .ok (.ireturn, 1) := by decide +kernel
theorem dX11_load_56 : decode cX11_load 56 = .ok (.aload_n 0, 1) := by decide +kernel
theorem dX11_load_57 : decode cX11_load 57 = .ok (.invokevirtual 112, 3) := by decide +kernel
theorem dX11_load_60 : decode cX11_load 60 = .ok (.aload_n 0, 1) := by decide +kernel
theorem dX11_load_61 : decode cX11_load 61 = .ok (.invokevirtual 189, 3) := by decide +kernel
theorem dX11_load_64 : decode cX11_load 64 = .ok (.aload_n 0, 1) := by decide +kernel
theorem dX11_load_65 : decode cX11_load 65 = .ok (.iconst 0, 1) := by decide +kernel
theorem dX11_load_66 : decode cX11_load 66 = .ok (.putfield 147, 3) := by decide +kernel
theorem dX11_load_69 : decode cX11_load 69 = .ok (.iload_n 1, 1) := by decide +kernel
theorem dX11_load_70 : decode cX11_load 70 = .ok (.ireturn, 1) := by decide +kernel
set_option maxRecDepth 20000 in
theorem ggX11_kinds_X11_of : GoodIn wsX11_kinds wsX11_of := goodIn_r _ [5, 6, 7, 8, 9, 10, 11, 12, 13, 14, 15, 16, 17, 18, 19, 20, 21, 22, 23] (by decide +kernel) (by decide +kernel)
set_option maxRecDepth 20000 in
theorem gX11_kinds_X11_of : GoodIn wsX11_kinds (wsV RX11 44 RX11 yX11_of wsX11_of) := goodIn_app (goodIn_of _ (by decide +kernel)) ggX11_kinds_X11_of
theorem dX11_kinds_0 : decode cX11_kinds 0 = .ok (.iconst 0, 1) := by decide +kernel
theorem dX11_kinds_1 : decode cX11_kinds 1 = .ok (.istore_n 2, 1) := by decide +kernel
theorem dX11_kinds_2 : decode cX11_kinds 2 = .ok (.iconst 0, 1) := by decide +kernel
theorem dX11_kinds_3 : decode cX11_kinds 3 = .ok (.istore_n 3, 1) := by decide +kernel
theorem dX11_kinds_4 : decode cX11_kinds 4 = .ok (.iload_n 3, 1) := by decide +kernel
theorem dX11_kinds_5 : decode cX11_kinds 5 = .ok (.bipush 8, 2) := by decide +kernel
theorem dX11_kinds_7 : decode cX11_kinds 7 = .ok (.if_icmp .ge 27, 3) := by decide +kernel
theorem dX11_kinds_10 : decode cX11_kinds 10 = .ok (.iload_n 2, 1) := by decide +kernel
theorem dX11_kinds_11 : decode cX11_kinds 11 = .ok (.aload_n 0, 1) := by decide +kernel
theorem dX11_kinds_12 : decode cX11_kinds 12 = .ok (.iload_n 3, 1) := by decide +kernel
theorem dX11_kinds_13 : decode cX11_kinds 13 = .ok (.iconst 0, 1) := by decide +kernel
theorem dX11_kinds_14 : decode cX11_kinds 14 = .ok (.invokevirtual 44, 3) := by decide +kernel
theorem dX11_kinds_17 : decode cX11_kinds 17 = .ok (.iload_n 1, 1) := by decide +kernel
theorem dX11_kinds_18 : decode cX11_kinds 18 = .ok (.if_icmp .ne 7, 3) := by decide +kernel
theorem dX11_kinds_21 : decode cX11_kinds 21 = .ok (.iconst 1, 1) := by decide +kernel
theorem dX11_kinds_22 : decode cX11_kinds 22 = .ok (.goto 4, 3) := by decide +kernel
theorem dX11_kinds_25 : decode cX11_kinds 25 = .ok (.iconst 0, 1) := by decide +kernel
theorem dX11_kinds_26 : decode cX11_kinds 26 = .ok (.iadd, 1) := by decide +kernel
theorem dX11_kinds_27 : decode cX11_kinds 27 = .ok (.istore_n 2, 1) := by decide +kernel
theorem dX11_kinds_28 : decode cX11_kinds 28 = .ok (.iinc 3 1, 3) := by decide +kernel
theorem dX11_kinds_31 : decode cX11_kinds 31 = .ok (.goto (-27), 3) := by decide +kernel
theorem dX11_kinds_34 : decode cX11_kinds 34 = .ok (.iload_n 2, 1) := by decide +kernel
theorem dX11_kinds_35 : decode cX11_kinds 35 = .ok (.ireturn, 1) := by decide +kernel
set_option maxRecDepth 20000 in
theorem ggX11_count_X11_slots : GoodIn wsX11_count wsX11_slots := goodIn_r _ [10, 2, 11, 12, 13, 9, 14, 23, 24, 25, 26, 27, 28, 29, 30, 31, 32, 33, 34, 35, 36, 37, 38, 39] (by decide +kernel) (by decide +kernel)
set_option maxRecDepth 20000 in
theorem gX11_count_X11_slots : GoodIn wsX11_count (wsV RX11 140 RX11 yX11_slots wsX11_slots) := goodIn_app (goodIn_of _ (by decide +kernel)) ggX11_count_X11_slots
set_option maxRecDepth 20000 in
theorem ggX11_count_X11_kinds : GoodIn wsX11_count wsX11_kinds := goodIn_r _ [18, 19, 20, 21, 9, 22, 2, 23, 24, 25, 26, 27, 28, 29, 30, 31, 32, 33, 34, 35, 36, 37, 38, 39] (by decide +kernel) (by decide +kernel)
set_option maxRecDepth 20000 in
theorem gX11_count_X11_kinds : GoodIn wsX11_count (wsV RX11 193 RX11 yX11_kinds wsX11_kinds) := goodIn_app (goodIn_of _ (by decide +kernel)) ggX11_count_X11_kinds
theorem dX11_count_0 : decode cX11_count 0 = .ok (.aload_n 0, 1) := by decide +kernel
theorem dX11_count_1 : decode cX11_count 1 = .ok (.iconst 0, 1) := by decide +kernel
theorem dX11_count_2 : decode cX11_count 2 = .ok (.putfield 29, 3) := by decide +kernel
theorem dX11_count_5 : decode cX11_count 5 = .ok (.iload_n 1, 1) := by decide +kernel
theorem dX11_count_6 : decode cX11_count 6 = .ok (.tableswitch 144 0 12 #[66, 74, 82, 82, 82, 94, 102, 120, 125, 130, 135, 135, 135], 66) := by decide +kernel
theorem dX11_count_72 : decode cX11_count 72 = .ok (.aload_n 0, 1) := by decide +kernel
theorem dX11_count_73 : decode cX11_count 73 = .ok (.getfield 7, 3) := by decide +kernel
theorem dX11_count_76 : decode cX11_count 76 = .ok (.bipush 76, 2) := by decide +kernel
theorem dX11_count_78 : decode cX11_count 78 = .ok (.iaload, 1) := by decide +kernel
theorem dX11_count_79 : decode cX11_count 79 = .ok (.ireturn, 1) := by decide +kernel
theorem dX11_count_80 : decode cX11_count 80 = .ok (.aload_n 0, 1) := by decide +kernel
theorem dX11_count_81 : decode cX11_count 81 = .ok (.getfield 7, 3) := by decide +kernel
theorem dX11_count_84 : decode cX11_count 84 = .ok (.bipush 43, 2) := by decide +kernel
theorem dX11_count_86 : decode cX11_count 86 = .ok (.iaload, 1) := by decide +kernel
theorem dX11_count_87 : decode cX11_count 87 = .ok (.ireturn, 1) := by decide +kernel
theorem dX11_count_88 : decode cX11_count 88 = .ok (.aload_n 0, 1) := by decide +kernel
theorem dX11_count_89 : decode cX11_count 89 = .ok (.getfield 7, 3) := by decide +kernel
theorem dX11_count_92 : decode cX11_count 92 = .ok (.bipush 40, 2) := by decide +kernel
theorem dX11_count_94 : decode cX11_count 94 = .ok (.iload_n 1, 1) := by decide +kernel
theorem dX11_count_95 : decode cX11_count 95 = .ok (.iadd, 1) := by decide +kernel
theorem dX11_count_96 : decode cX11_count 96 = .ok (.iconst 2, 1) := by decide +kernel
theorem dX11_count_97 : decode cX11_count 97 = .ok (.isub, 1) := by decide +kernel
theorem dX11_count_98 : decode cX11_count 98 = .ok (.iaload, 1) := by decide +kernel
theorem dX11_count_99 : decode cX11_count 99 = .ok (.ireturn, 1) := by decide +kernel
theorem dX11_count_100 : decode cX11_count 100 = .ok (.aload_n 0, 1) := by decide +kernel
theorem dX11_count_101 : decode cX11_count 101 = .ok (.getfield 7, 3) := by decide +kernel
theorem dX11_count_104 : decode cX11_count 104 = .ok (.bipush 77, 2) := by decide +kernel
theorem dX11_count_106 : decode cX11_count 106 = .ok (.iaload, 1) := by decide +kernel
theorem dX11_count_107 : decode cX11_count 107 = .ok (.ireturn, 1) := by decide +kernel
theorem dX11_count_108 : decode cX11_count 108 = .ok (.aload_n 0, 1) := by decide +kernel
theorem dX11_count_109 : decode cX11_count 109 = .ok (.getfield 7, 3) := by decide +kernel
theorem dX11_count_112 : decode cX11_count 112 = .ok (.sipush 254, 3) := by decide +kernel
theorem dX11_count_115 : decode cX11_count 115 = .ok (.iaload, 1) := by decide +kernel
theorem dX11_count_116 : decode cX11_count 116 = .ok (.aload_n 0, 1) := by decide +kernel
theorem dX11_count_117 : decode cX11_count 117 = .ok (.getfield 7, 3) := by decide +kernel
theorem dX11_count_120 : decode cX11_count 120 = .ok (.sipush 331, 3) := by decide +kernel
theorem dX11_count_123 : decode cX11_count 123 = .ok (.iaload, 1) := by decide +kernel
theorem dX11_count_124 : decode cX11_count 124 = .ok (.iadd, 1) := by decide +kernel
theorem dX11_count_125 : decode cX11_count 125 = .ok (.ireturn, 1) := by decide +kernel
theorem dX11_count_126 : decode cX11_count 126 = .ok (.aload_n 0, 1) := by decide +kernel
theorem dX11_count_127 : decode cX11_count 127 = .ok (.invokevirtual 140, 3) := by decide +kernel
theorem dX11_count_130 : decode cX11_count 130 = .ok (.ireturn, 1) := by decide +kernel
theorem dX11_count_131 : decode cX11_count 131 = .ok (.aload_n 0, 1) := by decide +kernel
theorem dX11_count_132 : decode cX11_count 132 = .ok (.getfield 33, 3) := by decide +kernel
theorem dX11_count_135 : decode cX11_count 135 = .ok (.ireturn, 1) := by decide +kernel
theorem dX11_count_136 : decode cX11_count 136 = .ok (.aload_n 0, 1) := by decide +kernel
theorem dX11_count_137 : decode cX11_count 137 = .ok (.getfield 147, 3) := by decide +kernel
theorem dX11_count_140 : decode cX11_count 140 = .ok (.ireturn, 1) := by decide +kernel
theorem dX11_count_141 : decode cX11_count 141 = .ok (.aload_n 0, 1) := by decide +kernel
theorem dX11_count_142 : decode cX11_count 142 = .ok (.iload_n 1, 1) := by decide +kernel
theorem dX11_count_143 : decode cX11_count 143 = .ok (.bipush 10, 2) := by decide +kernel
theorem dX11_count_145 : decode cX11_count 145 = .ok (.isub, 1) := by decide +kernel
theorem dX11_count_146 : decode cX11_count 146 = .ok (.invokevirtual 193, 3) := by decide +kernel
theorem dX11_count_149 : decode cX11_count 149 = .ok (.ireturn, 1) := by decide +kernel
theorem dX11_count_150 : decode cX11_count 150 = .ok (.ldc 111, 2) := by decide +kernel
theorem dX11_count_152 : decode cX11_count 152 = .ok (.ireturn, 1) := by decide +kernel
set_option maxRecDepth 20000 in
theorem ggX11_corrected_X11_down : GoodIn wsX11_corrected wsX11_down := goodIn_r _ [6] (by decide +kernel) (by decide +kernel)
set_option maxRecDepth 20000 in
theorem gX11_corrected_X11_down : GoodIn wsX11_corrected (va_wsS RX11 48 yX11_down wsX11_down) := goodIn_app (goodIn_of _ (by decide +kernel)) ggX11_corrected_X11_down
theorem dX11_corrected_0 : decode cX11_corrected 0 = .ok (.aload_n 0, 1) := by decide +kernel
theorem dX11_corrected_1 : decode cX11_corrected 1 = .ok (.getfield 7, 3) := by decide +kernel
theorem dX11_corrected_4 : decode cX11_corrected 4 = .ok (.bipush 78, 2) := by decide +kernel
theorem dX11_corrected_6 : decode cX11_corrected 6 = .ok (.iload_n 1, 1) := by decide +kernel
theorem dX11_corrected_7 : decode cX11_corrected 7 = .ok (.iadd, 1) := by decide +kernel
theorem dX11_corrected_8 : decode cX11_corrected 8 = .ok (.iaload, 1) := by decide +kernel
theorem dX11_corrected_9 : decode cX11_corrected 9 = .ok (.istore_n 2, 1) := by decide +kernel
theorem dX11_corrected_10 : decode cX11_corrected 10 = .ok (.aload_n 0, 1) := by decide +kernel
theorem dX11_corrected_11 : decode cX11_corrected 11 = .ok (.getfield 7, 3) := by decide +kernel
theorem dX11_corrected_14 : decode cX11_corrected 14 = .ok (.bipush 86, 2) := by decide +kernel
theorem dX11_corrected_16 : decode cX11_corrected 16 = .ok (.iaload, 1) := by decide +kernel
theorem dX11_corrected_17 : decode cX11_corrected 17 = .ok (.istore_n 3, 1) := by decide +kernel
theorem dX11_corrected_18 : decode cX11_corrected 18 = .ok (.aload_n 0, 1) := by decide +kernel
theorem dX11_corrected_19 : decode cX11_corrected 19 = .ok (.getfield 7, 3) := by decide +kernel
theorem dX11_corrected_22 : decode cX11_corrected 22 = .ok (.bipush 87, 2) := by decide +kernel
theorem dX11_corrected_24 : decode cX11_corrected 24 = .ok (.iaload, 1) := by decide +kernel
theorem dX11_corrected_25 : decode cX11_corrected 25 = .ok (.istore 4, 2) := by decide +kernel
theorem dX11_corrected_27 : decode cX11_corrected 27 = .ok (.iload_n 2, 1) := by decide +kernel
theorem dX11_corrected_28 : decode cX11_corrected 28 = .ok (.iconst (-1), 1) := by decide +kernel
theorem dX11_corrected_29 : decode cX11_corrected 29 = .ok (.if_icmp .eq 14, 3) := by decide +kernel
theorem dX11_corrected_32 : decode cX11_corrected 32 = .ok (.iload_n 3, 1) := by decide +kernel
theorem dX11_corrected_33 : decode cX11_corrected 33 = .ok (.iconst (-1), 1) := by decide +kernel
theorem dX11_corrected_34 : decode cX11_corrected 34 = .ok (.if_icmp .eq 9, 3) := by decide +kernel
theorem dX11_corrected_37 : decode cX11_corrected 37 = .ok (.iload 4, 2) := by decide +kernel
theorem dX11_corrected_39 : decode cX11_corrected 39 = .ok (.iload_n 3, 1) := by decide +kernel
theorem dX11_corrected_40 : decode cX11_corrected 40 = .ok (.if_icmp .gt 8, 3) := by decide +kernel
theorem dX11_corrected_43 : decode cX11_corrected 43 = .ok (.ldc 196, 2) := by decide +kernel
theorem dX11_corrected_45 : decode cX11_corrected 45 = .ok (.goto 21, 3) := by decide +kernel
theorem dX11_corrected_48 : decode cX11_corrected 48 = .ok (.iload_n 2, 1) := by decide +kernel
theorem dX11_corrected_49 : decode cX11_corrected 49 = .ok (.iload_n 3, 1) := by decide +kernel
theorem dX11_corrected_50 : decode cX11_corrected 50 = .ok (.isub, 1) := by decide +kernel
theorem dX11_corrected_51 : decode cX11_corrected 51 = .ok (.aload_n 0, 1) := by decide +kernel
theorem dX11_corrected_52 : decode cX11_corrected 52 = .ok (.getfield 7, 3) := by decide +kernel
theorem dX11_corrected_55 : decode cX11_corrected 55 = .ok (.bipush 40, 2) := by decide +kernel
theorem dX11_corrected_57 : decode cX11_corrected 57 = .ok (.iaload, 1) := by decide +kernel
theorem dX11_corrected_58 : decode cX11_corrected 58 = .ok (.imul, 1) := by decide +kernel
theorem dX11_corrected_59 : decode cX11_corrected 59 = .ok (.iload 4, 2) := by decide +kernel
theorem dX11_corrected_61 : decode cX11_corrected 61 = .ok (.iload_n 3, 1) := by decide +kernel
theorem dX11_corrected_62 : decode cX11_corrected 62 = .ok (.isub, 1) := by decide +kernel
theorem dX11_corrected_63 : decode cX11_corrected 63 = .ok (.invokestatic 48, 3) := by decide +kernel
theorem dX11_corrected_66 : decode cX11_corrected 66 = .ok (.ireturn, 1) := by decide +kernel
set_option maxRecDepth 20000 in
theorem ggX11_entriesOf_X11_placeOf : GoodIn wsX11_entriesOf wsX11_placeOf := goodIn_r _ [6, 1, 7, 8, 9, 10, 11, 12, 13, 14, 15, 16, 17, 18, 19, 20, 21, 22, 23] (by decide +kernel) (by decide +kernel)
set_option maxRecDepth 20000 in
theorem gX11_entriesOf_X11_placeOf : GoodIn wsX11_entriesOf (wsV RX11 89 RX11 yX11_placeOf wsX11_placeOf) := goodIn_app (goodIn_of _ (by decide +kernel)) ggX11_entriesOf_X11_placeOf
theorem dX11_entriesOf_0 : decode cX11_entriesOf 0 = .ok (.iconst 0, 1) := by decide +kernel
theorem dX11_entriesOf_1 : decode cX11_entriesOf 1 = .ok (.istore_n 2, 1) := by decide +kernel
theorem dX11_entriesOf_2 : decode cX11_entriesOf 2 = .ok (.iconst 0, 1) := by decide +kernel
theorem dX11_entriesOf_3 : decode cX11_entriesOf 3 = .ok (.istore_n 3, 1) := by decide +kernel
theorem dX11_entriesOf_4 : decode cX11_entriesOf 4 = .ok (.iload_n 3, 1) := by decide +kernel
theorem dX11_entriesOf_5 : decode cX11_entriesOf 5 = .ok (.aload_n 0, 1) := by decide +kernel
theorem dX11_entriesOf_6 : decode cX11_entriesOf 6 = .ok (.getfield 7, 3) := by decide +kernel
theorem dX11_entriesOf_9 : decode cX11_entriesOf 9 = .ok (.bipush 43, 2) := by decide +kernel
theorem dX11_entriesOf_11 : decode cX11_entriesOf 11 = .ok (.iaload, 1) := by decide +kernel
theorem dX11_entriesOf_12 : decode cX11_entriesOf 12 = .ok (.if_icmp .ge 26, 3) := by decide +kernel
theorem dX11_entriesOf_15 : decode cX11_entriesOf 15 = .ok (.iload_n 2, 1) := by decide +kernel
theorem dX11_entriesOf_16 : decode cX11_entriesOf 16 = .ok (.aload_n 0, 1) := by decide +kernel
theorem dX11_entriesOf_17 : decode cX11_entriesOf 17 = .ok (.iload_n 3, 1) := by decide +kernel
theorem dX11_entriesOf_18 : decode cX11_entriesOf 18 = .ok (.invokevirtual 89, 3) := by decide +kernel
theorem dX11_entriesOf_21 : decode cX11_entriesOf 21 = .ok (.iload_n 1, 1) := by decide +kernel
theorem dX11_entriesOf_22 : decode cX11_entriesOf 22 = .ok (.if_icmp .ne 7, 3) := by decide +kernel
theorem dX11_entriesOf_25 : decode cX11_entriesOf 25 = .ok (.iconst 1, 1) := by decide +kernel
theorem dX11_entriesOf_26 : decode cX11_entriesOf 26 = .ok (.goto 4, 3) := by decide +kernel
theorem dX11_entriesOf_29 : decode cX11_entriesOf 29 = .ok (.iconst 0, 1) := by decide +kernel
theorem dX11_entriesOf_30 : decode cX11_entriesOf 30 = .ok (.iadd, 1) := by decide +kernel
theorem dX11_entriesOf_31 : decode cX11_entriesOf 31 = .ok (.istore_n 2, 1) := by decide +kernel
theorem dX11_entriesOf_32 : decode cX11_entriesOf 32 = .ok (.iinc 3 1, 3) := by decide +kernel
theorem dX11_entriesOf_35 : decode cX11_entriesOf 35 = .ok (.goto (-31), 3) := by decide +kernel
theorem dX11_entriesOf_38 : decode cX11_entriesOf 38 = .ok (.iload_n 2, 1) := by decide +kernel
theorem dX11_entriesOf_39 : decode cX11_entriesOf 39 = .ok (.ireturn, 1) := by decide +kernel
set_option maxRecDepth 20000 in
theorem ggX11_channel_X11_isChannel : GoodIn wsX11_channel wsX11_isChannel := goodIn_r _ [8, 9, 10, 7, 11] (by decide +kernel) (by decide +kernel)
set_option maxRecDepth 20000 in
theorem gX11_channel_X11_isChannel : GoodIn wsX11_channel (va_wsS RX11 103 yX11_isChannel wsX11_isChannel) := goodIn_app (goodIn_of _ (by decide +kernel)) ggX11_channel_X11_isChannel
set_option maxRecDepth 20000 in
theorem ggX11_channel_X11_in : GoodIn wsX11_channel wsX11_in := goodIn_r _ [11] (by decide +kernel) (by decide +kernel)
set_option maxRecDepth 20000 in
theorem gX11_channel_X11_in : GoodIn wsX11_channel (va_wsS RX11 40 yX11_in wsX11_in) := goodIn_app (goodIn_of _ (by decide +kernel)) ggX11_channel_X11_in
set_option maxRecDepth 20000 in
theorem ggX11_channel_X11_corrected : GoodIn wsX11_channel wsX11_corrected := goodIn_r _ [15, 3, 4, 16, 17, 7, 18, 31, 32, 33, 34, 35, 36, 37, 38, 39, 40, 41, 42, 43, 44, 45, 46, 47] (by decide +kernel) (by decide +kernel)
set_option maxRecDepth 20000 in
theorem gX11_channel_X11_corrected : GoodIn wsX11_channel (wsV RX11 197 RX11 yX11_corrected wsX11_corrected) := goodIn_app (goodIn_of _ (by decide +kernel)) ggX11_channel_X11_corrected
set_option maxRecDepth 20000 in
theorem ggX11_channel_X11_entriesOf : GoodIn wsX11_channel wsX11_entriesOf := goodIn_r _ [22, 3, 23, 24, 25, 7, 26, 31, 32, 33, 34, 35, 36, 37, 38, 39, 40, 41, 42, 43, 44, 45, 46, 47] (by decide +kernel) (by decide +kernel)
set_option maxRecDepth 20000 in
theorem gX11_channel_X11_entriesOf : GoodIn wsX11_channel (wsV RX11 200 RX11 yX11_entriesOf wsX11_entriesOf) := goodIn_app (goodIn_of _ (by decide +kernel)) ggX11_channel_X11_entriesOf
set_option maxRecDepth 20000 in
theorem ggX11_channel_X11_of : GoodIn wsX11_channel wsX11_of := goodIn_r _ [30, 3, 31, 32, 33, 34, 35, 36, 37, 38, 39, 40, 41, 42, 43, 44, 45, 46, 47] (by decide +kernel) (by decide +kernel)
set_option maxRecDepth 20000 in
theorem gX11_channel_X11_of : GoodIn wsX11_channel (wsV RX11 44 RX11 yX11_of wsX11_of) := goodIn_app (goodIn_of _ (by decide +kernel)) ggX11_channel_X11_of
theorem dX11_channel_0 : decode cX11_channel 0 = .ok (.aload_n 0, 1) := by decide +kernel
theorem dX11_channel_1 : decode cX11_channel 1 = .ok (.iconst 0, 1) := by decide +kernel
theorem dX11_channel_2 : decode cX11_channel 2 = .ok (.putfield 29, 3) := by decide +kernel
theorem dX11_channel_5 : decode cX11_channel 5 = .ok (.iload_n 1, 1) := by decide +kernel
theorem dX11_channel_6 : decode cX11_channel 6 = .ok (.invokestatic 103, 3) := by decide +kernel
theorem dX11_channel_9 : decode cX11_channel 9 = .ok (.ifCond .eq 13, 3) := by decide +kernel
theorem dX11_channel_12 : decode cX11_channel 12 = .ok (.iload_n 2, 1) := by decide +kernel
theorem dX11_channel_13 : decode cX11_channel 13 = .ok (.iconst 0, 1) := by decide +kernel
theorem dX11_channel_14 : decode cX11_channel 14 = .ok (.bipush 7, 2) := by decide +kernel
theorem dX11_channel_16 : decode cX11_channel 16 = .ok (.invokestatic 40, 3) := by decide +kernel
theorem dX11_channel_19 : decode cX11_channel 19 = .ok (.ifCond .ne 6, 3) := by decide +kernel
theorem dX11_channel_22 : decode cX11_channel 22 = .ok (.ldc 111, 2) := by decide +kernel
theorem dX11_channel_24 : decode cX11_channel 24 = .ok (.ireturn, 1) := by decide +kernel
theorem dX11_channel_25 : decode cX11_channel 25 = .ok (.iload_n 2, 1) := by decide +kernel
theorem dX11_channel_26 : decode cX11_channel 26 = .ok (.tableswitch 66 5 7 #[26, 54, 60], 26) := by decide +kernel
theorem dX11_channel_52 : decode cX11_channel 52 = .ok (.aload_n 0, 1) := by decide +kernel
theorem dX11_channel_53 : decode cX11_channel 53 = .ok (.getfield 7, 3) := by decide +kernel
theorem dX11_channel_56 : decode cX11_channel 56 = .ok (.bipush 78, 2) := by decide +kernel
theorem dX11_channel_58 : decode cX11_channel 58 = .ok (.iload_n 1, 1) := by decide +kernel
theorem dX11_channel_59 : decode cX11_channel 59 = .ok (.iadd, 1) := by decide +kernel
theorem dX11_channel_60 : decode cX11_channel 60 = .ok (.iaload, 1) := by decide +kernel
theorem dX11_channel_61 : decode cX11_channel 61 = .ok (.iconst (-1), 1) := by decide +kernel
theorem dX11_channel_62 : decode cX11_channel 62 = .ok (.if_icmp .ne 8, 3) := by decide +kernel
theorem dX11_channel_65 : decode cX11_channel 65 = .ok (.ldc 196, 2) := by decide +kernel
theorem dX11_channel_67 : decode cX11_channel 67 = .ok (.goto 12, 3) := by decide +kernel
theorem dX11_channel_70 : decode cX11_channel 70 = .ok (.aload_n 0, 1) := by decide +kernel
theorem dX11_channel_71 : decode cX11_channel 71 = .ok (.getfield 7, 3) := by decide +kernel
theorem dX11_channel_74 : decode cX11_channel 74 = .ok (.bipush 78, 2) := by decide +kernel
theorem dX11_channel_76 : decode cX11_channel 76 = .ok (.iload_n 1, 1) := by decide +kernel
theorem dX11_channel_77 : decode cX11_channel 77 = .ok (.iadd, 1) := by decide +kernel
theorem dX11_channel_78 : decode cX11_channel 78 = .ok (.iaload, 1) := by decide +kernel
theorem dX11_channel_79 : decode cX11_channel 79 = .ok (.ireturn, 1) := by decide +kernel
theorem dX11_channel_80 : decode cX11_channel 80 = .ok (.aload_n 0, 1) := by decide +kernel
theorem dX11_channel_81 : decode cX11_channel 81 = .ok (.iload_n 1, 1) := by decide +kernel
theorem dX11_channel_82 : decode cX11_channel 82 = .ok (.invokevirtual 197, 3) := by decide +kernel
theorem dX11_channel_85 : decode cX11_channel 85 = .ok (.ireturn, 1) := by decide +kernel
theorem dX11_channel_86 : decode cX11_channel 86 = .ok (.aload_n 0, 1) := by decide +kernel
theorem dX11_channel_87 : decode cX11_channel 87 = .ok (.iload_n 1, 1) := by decide +kernel
theorem dX11_channel_88 : decode cX11_channel 88 = .ok (.invokevirtual 200, 3) := by decide +kernel
theorem dX11_channel_91 : decode cX11_channel 91 = .ok (.ireturn, 1) := by decide +kernel
theorem dX11_channel_92 : decode cX11_channel 92 = .ok (.aload_n 0, 1) := by decide +kernel
theorem dX11_channel_93 : decode cX11_channel 93 = .ok (.iload_n 1, 1) := by decide +kernel
theorem dX11_channel_94 : decode cX11_channel 94 = .ok (.iload_n 2, 1) := by decide +kernel
theorem dX11_channel_95 : decode cX11_channel 95 = .ok (.invokevirtual 44, 3) := by decide +kernel
theorem dX11_channel_98 : decode cX11_channel 98 = .ok (.ireturn, 1) := by decide +kernel
set_option maxRecDepth 20000 in
theorem ggX11_entry_X11_in : GoodIn wsX11_entry wsX11_in := goodIn_r _ [8] (by decide +kernel) (by decide +kernel)
set_option maxRecDepth 20000 in
theorem gX11_entry_X11_in : GoodIn wsX11_entry (va_wsS RX11 40 yX11_in wsX11_in) := goodIn_app (goodIn_of _ (by decide +kernel)) ggX11_entry_X11_in
theorem dX11_entry_0 : decode cX11_entry 0 = .ok (.aload_n 0, 1) := by decide +kernel
theorem dX11_entry_1 : decode cX11_entry 1 = .ok (.iconst 0, 1) := by decide +kernel
theorem dX11_entry_2 : decode cX11_entry 2 = .ok (.putfield 29, 3) := by decide +kernel
theorem dX11_entry_5 : decode cX11_entry 5 = .ok (.iload_n 1, 1) := by decide +kernel
theorem dX11_entry_6 : decode cX11_entry 6 = .ok (.ifCond .lt 12, 3) := by decide +kernel
theorem dX11_entry_9 : decode cX11_entry 9 = .ok (.iload_n 2, 1) := by decide +kernel
theorem dX11_entry_10 : decode cX11_entry 10 = .ok (.iconst 0, 1) := by decide +kernel
theorem dX11_entry_11 : decode cX11_entry 11 = .ok (.iconst 1, 1) := by decide +kernel
theorem dX11_entry_12 : decode cX11_entry 12 = .ok (.invokestatic 40, 3) := by decide +kernel
theorem dX11_entry_15 : decode cX11_entry 15 = .ok (.ifCond .ne 6, 3) := by decide +kernel
theorem dX11_entry_18 : decode cX11_entry 18 = .ok (.ldc 111, 2) := by decide +kernel
theorem dX11_entry_20 : decode cX11_entry 20 = .ok (.ireturn, 1) := by decide +kernel
theorem dX11_entry_21 : decode cX11_entry 21 = .ok (.iload_n 1, 1) := by decide +kernel
theorem dX11_entry_22 : decode cX11_entry 22 = .ok (.aload_n 0, 1) := by decide +kernel
theorem dX11_entry_23 : decode cX11_entry 23 = .ok (.getfield 7, 3) := by decide +kernel
theorem dX11_entry_26 : decode cX11_entry 26 = .ok (.bipush 43, 2) := by decide +kernel
theorem dX11_entry_28 : decode cX11_entry 28 = .ok (.iaload, 1) := by decide +kernel
theorem dX11_entry_29 : decode cX11_entry 29 = .ok (.if_icmp .ge 19, 3) := by decide +kernel
theorem dX11_entry_32 : decode cX11_entry 32 = .ok (.aload_n 0, 1) := by decide +kernel
theorem dX11_entry_33 : decode cX11_entry 33 = .ok (.getfield 7, 3) := by decide +kernel
theorem dX11_entry_36 : decode cX11_entry 36 = .ok (.bipush 44, 2) := by decide +kernel
theorem dX11_entry_38 : decode cX11_entry 38 = .ok (.iconst 2, 1) := by decide +kernel
theorem dX11_entry_39 : decode cX11_entry 39 = .ok (.iload_n 1, 1) := by decide +kernel
theorem dX11_entry_40 : decode cX11_entry 40 = .ok (.imul, 1) := by decide +kernel
theorem dX11_entry_41 : decode cX11_entry 41 = .ok (.iadd, 1) := by decide +kernel
theorem dX11_entry_42 : decode cX11_entry 42 = .ok (.iload_n 2, 1) := by decide +kernel
theorem dX11_entry_43 : decode cX11_entry 43 = .ok (.iadd, 1) := by decide +kernel
theorem dX11_entry_44 : decode cX11_entry 44 = .ok (.iaload, 1) := by decide +kernel
theorem dX11_entry_45 : decode cX11_entry 45 = .ok (.goto 5, 3) := by decide +kernel
theorem dX11_entry_48 : decode cX11_entry 48 = .ok (.ldc 196, 2) := by decide +kernel
theorem dX11_entry_50 : decode cX11_entry 50 = .ok (.ireturn, 1) := by decide +kernel
set_option maxRecDepth 20000 in
theorem ggX11_value_X11_isChannel : GoodIn wsX11_value wsX11_isChannel := goodIn_r _ [6, 7, 8, 5, 9] (by decide +kernel) (by decide +kernel)
set_option maxRecDepth 20000 in
theorem gX11_value_X11_isChannel : GoodIn wsX11_value (va_wsS RX11 103 yX11_isChannel wsX11_isChannel) := goodIn_app (goodIn_of _ (by decide +kernel)) ggX11_value_X11_isChannel
set_option maxRecDepth 20000 in
theorem ggX11_value_X11_in : GoodIn wsX11_value wsX11_in := goodIn_r _ [9] (by decide +kernel) (by decide +kernel)
set_option maxRecDepth 20000 in
theorem gX11_value_X11_in : GoodIn wsX11_value (va_wsS RX11 40 yX11_in wsX11_in) := goodIn_app (goodIn_of _ (by decide +kernel)) ggX11_value_X11_in
set_option maxRecDepth 20000 in
theorem ggX11_value_X11_valueAt : GoodIn wsX11_value wsX11_valueAt := goodIn_r _ [13, 14, 15, 16, 5, 17, 18, 19, 20, 21, 22, 23, 24, 25, 26, 27, 28, 29, 30, 31, 32, 33, 34, 35, 36, 37, 38] (by decide +kernel) (by decide +kernel)
set_option maxRecDepth 20000 in
theorem gX11_value_X11_valueAt : GoodIn wsX11_value (wsV RX11 51 RX11 yX11_valueAt wsX11_valueAt) := goodIn_app (goodIn_of _ (by decide +kernel)) ggX11_value_X11_valueAt
theorem dX11_value_0 : decode cX11_value 0 = .ok (.aload_n 0, 1) := by decide +kernel
theorem dX11_value_1 : decode cX11_value 1 = .ok (.iconst 0, 1) := by decide +kernel
theorem dX11_value_2 : decode cX11_value 2 = .ok (.putfield 29, 3) := by decide +kernel
theorem dX11_value_5 : decode cX11_value 5 = .ok (.iload_n 1, 1) := by decide +kernel
theorem dX11_value_6 : decode cX11_value 6 = .ok (.invokestatic 103, 3) := by decide +kernel
theorem dX11_value_9 : decode cX11_value 9 = .ok (.ifCond .eq 23, 3) := by decide +kernel
theorem dX11_value_12 : decode cX11_value 12 = .ok (.iload_n 2, 1) := by decide +kernel
theorem dX11_value_13 : decode cX11_value 13 = .ok (.iconst 0, 1) := by decide +kernel
theorem dX11_value_14 : decode cX11_value 14 = .ok (.sipush 9999, 3) := by decide +kernel
theorem dX11_value_17 : decode cX11_value 17 = .ok (.invokestatic 40, 3) := by decide +kernel
theorem dX11_value_20 : decode cX11_value 20 = .ok (.ifCond .eq 12, 3) := by decide +kernel
theorem dX11_value_23 : decode cX11_value 23 = .ok (.aload_n 0, 1) := by decide +kernel
theorem dX11_value_24 : decode cX11_value 24 = .ok (.iload_n 1, 1) := by decide +kernel
theorem dX11_value_25 : decode cX11_value 25 = .ok (.iload_n 2, 1) := by decide +kernel
theorem dX11_value_26 : decode cX11_value 26 = .ok (.invokevirtual 51, 3) := by decide +kernel
theorem dX11_value_29 : decode cX11_value 29 = .ok (.goto 5, 3) := by decide +kernel
theorem dX11_value_32 : decode cX11_value 32 = .ok (.ldc 111, 2) := by decide +kernel
theorem dX11_value_34 : decode cX11_value 34 = .ok (.ireturn, 1) := by decide +kernel
set_option maxRecDepth 20000 in
theorem ggX11_sample_X11_in : GoodIn wsX11_sample wsX11_in := goodIn_r _ [8] (by decide +kernel) (by decide +kernel)
set_option maxRecDepth 20000 in
theorem gX11_sample_X11_in : GoodIn wsX11_sample (va_wsS RX11 40 yX11_in wsX11_in) := goodIn_app (goodIn_of _ (by decide +kernel)) ggX11_sample_X11_in
theorem dX11_sample_0 : decode cX11_sample 0 = .ok (.aload_n 0, 1) := by decide +kernel
theorem dX11_sample_1 : decode cX11_sample 1 = .ok (.iconst 0, 1) := by decide +kernel
theorem dX11_sample_2 : decode cX11_sample 2 = .ok (.putfield 29, 3) := by decide +kernel
theorem dX11_sample_5 : decode cX11_sample 5 = .ok (.iload_n 1, 1) := by decide +kernel
theorem dX11_sample_6 : decode cX11_sample 6 = .ok (.ifCond .lt 12, 3) := by decide +kernel
theorem dX11_sample_9 : decode cX11_sample 9 = .ok (.iload_n 2, 1) := by decide +kernel
theorem dX11_sample_10 : decode cX11_sample 10 = .ok (.iconst 0, 1) := by decide +kernel
theorem dX11_sample_11 : decode cX11_sample 11 = .ok (.iconst 4, 1) := by decide +kernel
theorem dX11_sample_12 : decode cX11_sample 12 = .ok (.invokestatic 40, 3) := by decide +kernel
theorem dX11_sample_15 : decode cX11_sample 15 = .ok (.ifCond .ne 6, 3) := by decide +kernel
theorem dX11_sample_18 : decode cX11_sample 18 = .ok (.ldc 111, 2) := by decide +kernel
theorem dX11_sample_20 : decode cX11_sample 20 = .ok (.ireturn, 1) := by decide +kernel
theorem dX11_sample_21 : decode cX11_sample 21 = .ok (.iload_n 1, 1) := by decide +kernel
theorem dX11_sample_22 : decode cX11_sample 22 = .ok (.aload_n 0, 1) := by decide +kernel
theorem dX11_sample_23 : decode cX11_sample 23 = .ok (.getfield 7, 3) := by decide +kernel
theorem dX11_sample_26 : decode cX11_sample 26 = .ok (.bipush 77, 2) := by decide +kernel
theorem dX11_sample_28 : decode cX11_sample 28 = .ok (.iaload, 1) := by decide +kernel
theorem dX11_sample_29 : decode cX11_sample 29 = .ok (.if_icmp .ge 29, 3) := by decide +kernel
theorem dX11_sample_32 : decode cX11_sample 32 = .ok (.aload_n 0, 1) := by decide +kernel
theorem dX11_sample_33 : decode cX11_sample 33 = .ok (.getfield 7, 3) := by decide +kernel
theorem dX11_sample_36 : decode cX11_sample 36 = .ok (.bipush 94, 2) := by decide +kernel
theorem dX11_sample_38 : decode cX11_sample 38 = .ok (.iconst 5, 1) := by decide +kernel
theorem dX11_sample_39 : decode cX11_sample 39 = .ok (.aload_n 0, 1) := by decide +kernel
theorem dX11_sample_40 : decode cX11_sample 40 = .ok (.getfield 7, 3) := by decide +kernel
theorem dX11_sample_43 : decode cX11_sample 43 = .ok (.bipush 77, 2) := by decide +kernel
theorem dX11_sample_45 : decode cX11_sample 45 = .ok (.iaload, 1) := by decide +kernel
theorem dX11_sample_46 : decode cX11_sample 46 = .ok (.iconst 1, 1) := by decide +kernel
theorem dX11_sample_47 : decode cX11_sample 47 = .ok (.isub, 1) := by decide +kernel
theorem dX11_sample_48 : decode cX11_sample 48 = .ok (.iload_n 1, 1) := by decide +kernel
theorem dX11_sample_49 : decode cX11_sample 49 = .ok (.isub, 1) := by decide +kernel
theorem dX11_sample_50 : decode cX11_sample 50 = .ok (.imul, 1) := by decide +kernel
theorem dX11_sample_51 : decode cX11_sample 51 = .ok (.iadd, 1) := by decide +kernel
theorem dX11_sample_52 : decode cX11_sample 52 = .ok (.iload_n 2, 1) := by decide +kernel
theorem dX11_sample_53 : decode cX11_sample 53 = .ok (.iadd, 1) := by decide +kernel
theorem dX11_sample_54 : decode cX11_sample 54 = .ok (.iaload, 1) := by decide +kernel
theorem dX11_sample_55 : decode cX11_sample 55 = .ok (.goto 5, 3) := by decide +kernel
theorem dX11_sample_58 : decode cX11_sample 58 = .ok (.ldc 196, 2) := by decide +kernel
theorem dX11_sample_60 : decode cX11_sample 60 = .ok (.ireturn, 1) := by decide +kernel
set_option maxRecDepth 20000 in
theorem ggX11_account_X11_in : GoodIn wsX11_account wsX11_in := goodIn_r _ [7] (by decide +kernel) (by decide +kernel)
set_option maxRecDepth 20000 in
theorem gX11_account_X11_in : GoodIn wsX11_account (va_wsS RX11 40 yX11_in wsX11_in) := goodIn_app (goodIn_of _ (by decide +kernel)) ggX11_account_X11_in
theorem dX11_account_0 : decode cX11_account 0 = .ok (.aload_n 0, 1) := by decide +kernel
theorem dX11_account_1 : decode cX11_account 1 = .ok (.iconst 0, 1) := by decide +kernel
theorem dX11_account_2 : decode cX11_account 2 = .ok (.putfield 29, 3) := by decide +kernel
theorem dX11_account_5 : decode cX11_account 5 = .ok (.iload_n 1, 1) := by decide +kernel
theorem dX11_account_6 : decode cX11_account 6 = .ok (.iconst 0, 1) := by decide +kernel
theorem dX11_account_7 : decode cX11_account 7 = .ok (.bipush 6, 2) := by decide +kernel
theorem dX11_account_9 : decode cX11_account 9 = .ok (.invokestatic 40, 3) := by decide +kernel
theorem dX11_account_12 : decode cX11_account 12 = .ok (.ifCond .ne 6, 3) := by decide +kernel
theorem dX11_account_15 : decode cX11_account 15 = .ok (.ldc 111, 2) := by decide +kernel
theorem dX11_account_17 : decode cX11_account 17 = .ok (.ireturn, 1) := by decide +kernel
theorem dX11_account_18 : decode cX11_account 18 = .ok (.iload_n 1, 1) := by decide +kernel
theorem dX11_account_19 : decode cX11_account 19 = .ok (.bipush 6, 2) := by decide +kernel
theorem dX11_account_21 : decode cX11_account 21 = .ok (.if_icmp .ge 15, 3) := by decide +kernel
theorem dX11_account_24 : decode cX11_account 24 = .ok (.aload_n 0, 1) := by decide +kernel
theorem dX11_account_25 : decode cX11_account 25 = .ok (.getfield 7, 3) := by decide +kernel
theorem dX11_account_28 : decode cX11_account 28 = .ok (.bipush 88, 2) := by decide +kernel
theorem dX11_account_30 : decode cX11_account 30 = .ok (.iload_n 1, 1) := by decide +kernel
theorem dX11_account_31 : decode cX11_account 31 = .ok (.iadd, 1) := by decide +kernel
theorem dX11_account_32 : decode cX11_account 32 = .ok (.iaload, 1) := by decide +kernel
theorem dX11_account_33 : decode cX11_account 33 = .ok (.goto 34, 3) := by decide +kernel
theorem dX11_account_36 : decode cX11_account 36 = .ok (.aload_n 0, 1) := by decide +kernel
theorem dX11_account_37 : decode cX11_account 37 = .ok (.getfield 7, 3) := by decide +kernel
theorem dX11_account_40 : decode cX11_account 40 = .ok (.bipush 88, 2) := by decide +kernel
theorem dX11_account_42 : decode cX11_account 42 = .ok (.iaload, 1) := by decide +kernel
theorem dX11_account_43 : decode cX11_account 43 = .ok (.aload_n 0, 1) := by decide +kernel
theorem dX11_account_44 : decode cX11_account 44 = .ok (.getfield 7, 3) := by decide +kernel
theorem dX11_account_47 : decode cX11_account 47 = .ok (.bipush 89, 2) := by decide +kernel
theorem dX11_account_49 : decode cX11_account 49 = .ok (.iaload, 1) := by decide +kernel
theorem dX11_account_50 : decode cX11_account 50 = .ok (.iadd, 1) := by decide +kernel
theorem dX11_account_51 : decode cX11_account 51 = .ok (.aload_n 0, 1) := by decide +kernel
theorem dX11_account_52 : decode cX11_account 52 = .ok (.getfield 7, 3) := by decide +kernel
theorem dX11_account_55 : decode cX11_account 55 = .ok (.bipush 90, 2) := by decide +kernel
theorem dX11_account_57 : decode cX11_account 57 = .ok (.iaload, 1) := by decide +kernel
theorem dX11_account_58 : decode cX11_account 58 = .ok (.iadd, 1) := by decide +kernel
theorem dX11_account_59 : decode cX11_account 59 = .ok (.aload_n 0, 1) := by decide +kernel
theorem dX11_account_60 : decode cX11_account 60 = .ok (.getfield 7, 3) := by decide +kernel
theorem dX11_account_63 : decode cX11_account 63 = .ok (.bipush 91, 2) := by decide +kernel
theorem dX11_account_65 : decode cX11_account 65 = .ok (.iaload, 1) := by decide +kernel
theorem dX11_account_66 : decode cX11_account 66 = .ok (.iadd, 1) := by decide +kernel
theorem dX11_account_67 : decode cX11_account 67 = .ok (.ireturn, 1) := by decide +kernel
set_option maxRecDepth 20000 in
theorem ggX11_held_X11_in : GoodIn wsX11_held wsX11_in := goodIn_r _ [8] (by decide +kernel) (by decide +kernel)
set_option maxRecDepth 20000 in
theorem gX11_held_X11_in : GoodIn wsX11_held (va_wsS RX11 40 yX11_in wsX11_in) := goodIn_app (goodIn_of _ (by decide +kernel)) ggX11_held_X11_in
set_option maxRecDepth 20000 in
theorem ggX11_held_X11_reading : GoodIn wsX11_held wsX11_reading := goodIn_r _ [12, 13, 14, 15, 7, 16, 17, 18, 19, 20, 21, 22, 23, 24, 25, 26, 27, 28, 29, 30, 31, 32, 33, 34, 35] (by decide +kernel) (by decide +kernel)
set_option maxRecDepth 20000 in
theorem gX11_held_X11_reading : GoodIn wsX11_held (wsV RX11 73 RX11 yX11_reading wsX11_reading) := goodIn_app (goodIn_of _ (by decide +kernel)) ggX11_held_X11_reading
theorem dX11_held_0 : decode cX11_held 0 = .ok (.aload_n 0, 1) := by decide +kernel
theorem dX11_held_1 : decode cX11_held 1 = .ok (.iconst 0, 1) := by decide +kernel
theorem dX11_held_2 : decode cX11_held 2 = .ok (.putfield 29, 3) := by decide +kernel
theorem dX11_held_5 : decode cX11_held 5 = .ok (.iload_n 1, 1) := by decide +kernel
theorem dX11_held_6 : decode cX11_held 6 = .ok (.iconst 0, 1) := by decide +kernel
theorem dX11_held_7 : decode cX11_held 7 = .ok (.iconst 2, 1) := by decide +kernel
theorem dX11_held_8 : decode cX11_held 8 = .ok (.invokestatic 40, 3) := by decide +kernel
theorem dX11_held_11 : decode cX11_held 11 = .ok (.ifCond .ne 6, 3) := by decide +kernel
theorem dX11_held_14 : decode cX11_held 14 = .ok (.ldc 111, 2) := by decide +kernel
theorem dX11_held_16 : decode cX11_held 16 = .ok (.ireturn, 1) := by decide +kernel
theorem dX11_held_17 : decode cX11_held 17 = .ok (.iload_n 1, 1) := by decide +kernel
theorem dX11_held_18 : decode cX11_held 18 = .ok (.ifCond .ne 11, 3) := by decide +kernel
theorem dX11_held_21 : decode cX11_held 21 = .ok (.aload_n 0, 1) := by decide +kernel
theorem dX11_held_22 : decode cX11_held 22 = .ok (.getfield 36, 3) := by decide +kernel
theorem dX11_held_25 : decode cX11_held 25 = .ok (.f2i, 1) := by decide +kernel
theorem dX11_held_26 : decode cX11_held 26 = .ok (.goto 27, 3) := by decide +kernel
theorem dX11_held_29 : decode cX11_held 29 = .ok (.iload_n 1, 1) := by decide +kernel
theorem dX11_held_30 : decode cX11_held 30 = .ok (.iconst 1, 1) := by decide +kernel
theorem dX11_held_31 : decode cX11_held 31 = .ok (.if_icmp .ne 14, 3) := by decide +kernel
theorem dX11_held_34 : decode cX11_held 34 = .ok (.aload_n 0, 1) := by decide +kernel
theorem dX11_held_35 : decode cX11_held 35 = .ok (.aload_n 0, 1) := by decide +kernel
theorem dX11_held_36 : decode cX11_held 36 = .ok (.getfield 36, 3) := by decide +kernel
theorem dX11_held_39 : decode cX11_held 39 = .ok (.invokevirtual 73, 3) := by decide +kernel
theorem dX11_held_42 : decode cX11_held 42 = .ok (.goto 11, 3) := by decide +kernel
theorem dX11_held_45 : decode cX11_held 45 = .ok (.aload_n 0, 1) := by decide +kernel
theorem dX11_held_46 : decode cX11_held 46 = .ok (.getfield 36, 3) := by decide +kernel
theorem dX11_held_49 : decode cX11_held 49 = .ok (.ldc 203, 2) := by decide +kernel
theorem dX11_held_51 : decode cX11_held 51 = .ok (.fmul, 1) := by decide +kernel
theorem dX11_held_52 : decode cX11_held 52 = .ok (.f2i, 1) := by decide +kernel
theorem dX11_held_53 : decode cX11_held 53 = .ok (.ireturn, 1) := by decide +kernel
set_option maxRecDepth 20000 in
theorem ggX11_would_X11_isEntry : GoodIn wsX11_would wsX11_isEntry := goodIn_r _ [10, 11, 12, 13, 9, 14, 66, 67, 68, 69, 70, 71, 72, 73, 74, 75, 76, 77, 78, 79, 80, 81, 82] (by decide +kernel) (by decide +kernel)
set_option maxRecDepth 20000 in
theorem gX11_would_X11_isEntry : GoodIn wsX11_would (wsV RX11 127 RX11 yX11_isEntry wsX11_isEntry) := goodIn_app (goodIn_of _ (by decide +kernel)) ggX11_would_X11_isEntry
set_option maxRecDepth 20000 in
theorem ggX11_would_X11_in : GoodIn wsX11_would wsX11_in := goodIn_r _ [14] (by decide +kernel) (by decide +kernel)
set_option maxRecDepth 20000 in
theorem gX11_would_X11_in : GoodIn wsX11_would (va_wsS RX11 40 yX11_in wsX11_in) := goodIn_app (goodIn_of _ (by decide +kernel)) ggX11_would_X11_in
set_option maxRecDepth 20000 in
theorem ggX11_would_X11_carryOutTo : GoodIn wsX11_would wsX11_carryOutTo := goodIn_r _ [18, 19, 20, 21, 9, 22, 23, 24, 11, 25, 26, 27, 28, 29, 30, 31, 32, 33, 34, 35, 36, 37, 3, 4, 5, 38, 39, 40, 41, 42, 43, 44, 45, 46, 47, 48, 49, 50, 51, 52, 53, 54, 55, 56, 57, 58, 59, 60, 61, 62, 63, 64, 65, 66, 67, 68, 69, 70, 71, 72, 73, 74, 75, 76, 77, 78, 79, 80, 81, 82] (by decide +kernel) (by decide +kernel)
set_option maxRecDepth 20000 in
theorem gX11_would_X11_carryOutTo : GoodIn wsX11_would (wsV RX11 204 RX11 yX11_carryOutTo wsX11_carryOutTo) := goodIn_app (goodIn_of _ (by decide +kernel)) ggX11_would_X11_carryOutTo
theorem dX11_would_0 : decode cX11_would 0 = .ok (.aload_n 0, 1) := by decide +kernel
theorem dX11_would_1 : decode cX11_would 1 = .ok (.iconst 0, 1) := by decide +kernel
theorem dX11_would_2 : decode cX11_would 2 = .ok (.putfield 29, 3) := by decide +kernel
theorem dX11_would_5 : decode cX11_would 5 = .ok (.aload_n 0, 1) := by decide +kernel
theorem dX11_would_6 : decode cX11_would 6 = .ok (.iload_n 1, 1) := by decide +kernel
theorem dX11_would_7 : decode cX11_would 7 = .ok (.invokevirtual 127, 3) := by decide +kernel
theorem dX11_would_10 : decode cX11_would 10 = .ok (.ifCond .eq 12, 3) := by decide +kernel
theorem dX11_would_13 : decode cX11_would 13 = .ok (.iload_n 2, 1) := by decide +kernel
theorem dX11_would_14 : decode cX11_would 14 = .ok (.iconst 0, 1) := by decide +kernel
theorem dX11_would_15 : decode cX11_would 15 = .ok (.iconst 2, 1) := by decide +kernel
theorem dX11_would_16 : decode cX11_would 16 = .ok (.invokestatic 40, 3) := by decide +kernel
theorem dX11_would_19 : decode cX11_would 19 = .ok (.ifCond .ne 6, 3) := by decide +kernel
theorem dX11_would_22 : decode cX11_would 22 = .ok (.ldc 111, 2) := by decide +kernel
theorem dX11_would_24 : decode cX11_would 24 = .ok (.ireturn, 1) := by decide +kernel
theorem dX11_would_25 : decode cX11_would 25 = .ok (.aload_n 0, 1) := by decide +kernel
theorem dX11_would_26 : decode cX11_would 26 = .ok (.iload_n 1, 1) := by decide +kernel
theorem dX11_would_27 : decode cX11_would 27 = .ok (.invokevirtual 204, 3) := by decide +kernel
theorem dX11_would_30 : decode cX11_would 30 = .ok (.iload_n 2, 1) := by decide +kernel
theorem dX11_would_31 : decode cX11_would 31 = .ok (.ifCond .ne 10, 3) := by decide +kernel
theorem dX11_would_34 : decode cX11_would 34 = .ok (.aload_n 0, 1) := by decide +kernel
theorem dX11_would_35 : decode cX11_would 35 = .ok (.getfield 77, 3) := by decide +kernel
theorem dX11_would_38 : decode cX11_would 38 = .ok (.goto 19, 3) := by decide +kernel
theorem dX11_would_41 : decode cX11_would 41 = .ok (.iload_n 2, 1) := by decide +kernel
theorem dX11_would_42 : decode cX11_would 42 = .ok (.iconst 1, 1) := by decide +kernel
theorem dX11_would_43 : decode cX11_would 43 = .ok (.if_icmp .ne 10, 3) := by decide +kernel
theorem dX11_would_46 : decode cX11_would 46 = .ok (.aload_n 0, 1) := by decide +kernel
theorem dX11_would_47 : decode cX11_would 47 = .ok (.getfield 80, 3) := by decide +kernel
theorem dX11_would_50 : decode cX11_would 50 = .ok (.goto 7, 3) := by decide +kernel
theorem dX11_would_53 : decode cX11_would 53 = .ok (.aload_n 0, 1) := by decide +kernel
theorem dX11_would_54 : decode cX11_would 54 = .ok (.getfield 83, 3) := by decide +kernel
theorem dX11_would_57 : decode cX11_would 57 = .ok (.ireturn, 1) := by decide +kernel
set_option maxRecDepth 20000 in
theorem ggX11_why_X11_isEntry : GoodIn wsX11_why wsX11_isEntry := goodIn_r _ [11, 12, 13, 14, 10, 15, 66, 67, 68, 69, 70, 71, 72, 73, 74, 75, 76, 77, 78, 79, 80, 81, 82] (by decide +kernel) (by decide +kernel)
set_option maxRecDepth 20000 in
theorem gX11_why_X11_isEntry : GoodIn wsX11_why (wsV RX11 127 RX11 yX11_isEntry wsX11_isEntry) := goodIn_app (goodIn_of _ (by decide +kernel)) ggX11_why_X11_isEntry
set_option maxRecDepth 20000 in
theorem ggX11_why_X11_carryOutTo : GoodIn wsX11_why wsX11_carryOutTo := goodIn_r _ [19, 20, 21, 22, 10, 23, 24, 5, 12, 6, 25, 26, 27, 28, 29, 30, 31, 32, 33, 34, 35, 36, 37, 4, 3, 38, 39, 40, 41, 42, 43, 44, 45, 46, 47, 48, 49, 50, 51, 52, 53, 54, 55, 56, 57, 58, 59, 60, 61, 62, 63, 64, 65, 66, 67, 68, 69, 70, 71, 72, 73, 74, 75, 76, 77, 78, 79, 80, 81, 82] (by decide +kernel) (by decide +kernel)
set_option maxRecDepth 20000 in
theorem gX11_why_X11_carryOutTo : GoodIn wsX11_why (wsV RX11 204 RX11 yX11_carryOutTo wsX11_carryOutTo) := goodIn_app (goodIn_of _ (by decide +kernel)) ggX11_why_X11_carryOutTo
set_option maxRecDepth 20000 in
theorem ggX11_why_X11_readingBy : GoodIn wsX11_why wsX11_readingBy := goodIn_r _ [63, 64, 65] (by decide +kernel) (by decide +kernel)
set_option maxRecDepth 20000 in
theorem gX11_why_X11_readingBy : GoodIn wsX11_why (va_wsS RX11 59 yX11_readingBy wsX11_readingBy) := goodIn_app (goodIn_of _ (by decide +kernel)) ggX11_why_X11_readingBy
set_option maxRecDepth 20000 in
theorem ggX11_why_X11_placeOf : GoodIn wsX11_why wsX11_placeOf := goodIn_r _ [28, 12, 66, 67, 68, 69, 70, 71, 72, 73, 74, 75, 76, 77, 78, 79, 80, 81, 82] (by decide +kernel) (by decide +kernel)
set_option maxRecDepth 20000 in
theorem gX11_why_X11_placeOf : GoodIn wsX11_why (wsV RX11 89 RX11 yX11_placeOf wsX11_placeOf) := goodIn_app (goodIn_of _ (by decide +kernel)) ggX11_why_X11_placeOf
set_option maxRecDepth 20000 in
theorem ggX11_why_X11_valueOf : GoodIn wsX11_why wsX11_valueOf := goodIn_r _ [45, 12, 46, 47, 48, 10, 49, 50, 51, 52, 53, 54, 55, 56, 66, 67, 68, 69, 70, 71, 72, 73, 74, 75, 76, 77, 78, 79, 80, 81, 82] (by decide +kernel) (by decide +kernel)
set_option maxRecDepth 20000 in
theorem gX11_why_X11_valueOf : GoodIn wsX11_why (wsV RX11 54 RX11 yX11_valueOf wsX11_valueOf) := goodIn_app (goodIn_of _ (by decide +kernel)) ggX11_why_X11_valueOf
theorem dX11_why_0 : decode cX11_why 0 = .ok (.aload_n 0, 1) := by decide +kernel
theorem dX11_why_1 : decode cX11_why 1 = .ok (.iconst 0, 1) := by decide +kernel
theorem dX11_why_2 : decode cX11_why 2 = .ok (.putfield 29, 3) := by decide +kernel
theorem dX11_why_5 : decode cX11_why 5 = .ok (.aload_n 0, 1) := by decide +kernel
theorem dX11_why_6 : decode cX11_why 6 = .ok (.iload_n 1, 1) := by decide +kernel
theorem dX11_why_7 : decode cX11_why 7 = .ok (.invokevirtual 127, 3) := by decide +kernel
theorem dX11_why_10 : decode cX11_why 10 = .ok (.ifCond .ne 6, 3) := by decide +kernel
theorem dX11_why_13 : decode cX11_why 13 = .ok (.ldc 111, 2) := by decide +kernel
theorem dX11_why_15 : decode cX11_why 15 = .ok (.ireturn, 1) := by decide +kernel
theorem dX11_why_16 : decode cX11_why 16 = .ok (.aload_n 0, 1) := by decide +kernel
theorem dX11_why_17 : decode cX11_why 17 = .ok (.iload_n 1, 1) := by decide +kernel
theorem dX11_why_18 : decode cX11_why 18 = .ok (.invokevirtual 204, 3) := by decide +kernel
theorem dX11_why_21 : decode cX11_why 21 = .ok (.aload_n 0, 1) := by decide +kernel
theorem dX11_why_22 : decode cX11_why 22 = .ok (.getfield 83, 3) := by decide +kernel
theorem dX11_why_25 : decode cX11_why 25 = .ok (.ifCond .ne 5, 3) := by decide +kernel
theorem dX11_why_28 : decode cX11_why 28 = .ok (.iconst 0, 1) := by decide +kernel
theorem dX11_why_29 : decode cX11_why 29 = .ok (.ireturn, 1) := by decide +kernel
theorem dX11_why_30 : decode cX11_why 30 = .ok (.aload_n 0, 1) := by decide +kernel
theorem dX11_why_31 : decode cX11_why 31 = .ok (.getfield 80, 3) := by decide +kernel
theorem dX11_why_34 : decode cX11_why 34 = .ok (.ifCond .eq 16, 3) := by decide +kernel
theorem dX11_why_37 : decode cX11_why 37 = .ok (.aload_n 0, 1) := by decide +kernel
theorem dX11_why_38 : decode cX11_why 38 = .ok (.getfield 80, 3) := by decide +kernel
theorem dX11_why_41 : decode cX11_why 41 = .ok (.ifCond .le 7, 3) := by decide +kernel
theorem dX11_why_44 : decode cX11_why 44 = .ok (.iconst 1, 1) := by decide +kernel
theorem dX11_why_45 : decode cX11_why 45 = .ok (.goto 4, 3) := by decide +kernel
theorem dX11_why_48 : decode cX11_why 48 = .ok (.iconst 2, 1) := by decide +kernel
theorem dX11_why_49 : decode cX11_why 49 = .ok (.ireturn, 1) := by decide +kernel
theorem dX11_why_50 : decode cX11_why 50 = .ok (.aload_n 0, 1) := by decide +kernel
theorem dX11_why_51 : decode cX11_why 51 = .ok (.getfield 63, 3) := by decide +kernel
theorem dX11_why_54 : decode cX11_why 54 = .ok (.sipush 1000, 3) := by decide +kernel
theorem dX11_why_57 : decode cX11_why 57 = .ok (.iconst 0, 1) := by decide +kernel
theorem dX11_why_58 : decode cX11_why 58 = .ok (.invokestatic 59, 3) := by decide +kernel
theorem dX11_why_61 : decode cX11_why 61 = .ok (.aload_n 0, 1) := by decide +kernel
theorem dX11_why_62 : decode cX11_why 62 = .ok (.aload_n 0, 1) := by decide +kernel
theorem dX11_why_63 : decode cX11_why 63 = .ok (.iload_n 1, 1) := by decide +kernel
theorem dX11_why_64 : decode cX11_why 64 = .ok (.invokevirtual 89, 3) := by decide +kernel
theorem dX11_why_67 : decode cX11_why 67 = .ok (.aload_n 0, 1) := by decide +kernel
theorem dX11_why_68 : decode cX11_why 68 = .ok (.getfield 66, 3) := by decide +kernel
theorem dX11_why_71 : decode cX11_why 71 = .ok (.iconst 1, 1) := by decide +kernel
theorem dX11_why_72 : decode cX11_why 72 = .ok (.isub, 1) := by decide +kernel
theorem dX11_why_73 : decode cX11_why 73 = .ok (.invokevirtual 54, 3) := by decide +kernel
theorem dX11_why_76 : decode cX11_why 76 = .ok (.if_icmp .ne 7, 3) := by decide +kernel
theorem dX11_why_79 : decode cX11_why 79 = .ok (.iconst 3, 1) := by decide +kernel
theorem dX11_why_80 : decode cX11_why 80 = .ok (.goto 4, 3) := by decide +kernel
theorem dX11_why_83 : decode cX11_why 83 = .ok (.iconst 4, 1) := by decide +kernel
theorem dX11_why_84 : decode cX11_why 84 = .ok (.ireturn, 1) := by decide +kernel
set_option maxRecDepth 20000 in
theorem ggX11_settleFor_X11_isEntry : GoodIn wsX11_settleFor wsX11_isEntry := goodIn_r _ [10, 4, 11, 12, 9, 13, 70, 71, 72, 73, 74, 75, 76, 77, 78, 79, 80, 81, 82, 83, 84, 85, 86] (by decide +kernel) (by decide +kernel)
set_option maxRecDepth 20000 in
theorem gX11_settleFor_X11_isEntry : GoodIn wsX11_settleFor (wsV RX11 127 RX11 yX11_isEntry wsX11_isEntry) := goodIn_app (goodIn_of _ (by decide +kernel)) ggX11_settleFor_X11_isEntry
set_option maxRecDepth 20000 in
theorem ggX11_settleFor_X11_in : GoodIn wsX11_settleFor wsX11_in := goodIn_r _ [13] (by decide +kernel) (by decide +kernel)
set_option maxRecDepth 20000 in
theorem gX11_settleFor_X11_in : GoodIn wsX11_settleFor (va_wsS RX11 40 yX11_in wsX11_in) := goodIn_app (goodIn_of _ (by decide +kernel)) ggX11_settleFor_X11_in
set_option maxRecDepth 20000 in
theorem ggX11_settleFor_X11_settleOf : GoodIn wsX11_settleFor wsX11_settleOf := goodIn_r _ [17, 4, 70, 71, 72, 73, 74, 75, 76, 77, 78, 79, 80, 81, 82, 83, 84, 85, 86] (by decide +kernel) (by decide +kernel)
set_option maxRecDepth 20000 in
theorem gX11_settleFor_X11_settleOf : GoodIn wsX11_settleFor (wsV RX11 93 RX11 yX11_settleOf wsX11_settleOf) := goodIn_app (goodIn_of _ (by decide +kernel)) ggX11_settleFor_X11_settleOf
set_option maxRecDepth 20000 in
theorem ggX11_settleFor_X11_carryOutTo : GoodIn wsX11_settleFor wsX11_carryOutTo := goodIn_r _ [21, 22, 23, 24, 9, 25, 26, 27, 4, 28, 29, 30, 31, 32, 14, 15, 16, 17, 33, 34, 35, 36, 37, 38, 5, 39, 40, 41, 42, 43, 44, 45, 46, 47, 48, 49, 50, 51, 52, 53, 54, 55, 56, 57, 58, 59, 60, 61, 62, 63, 64, 65, 66, 70, 71, 72, 73, 74, 75, 76, 77, 78, 79, 80, 81, 82, 83, 84, 85, 86] (by decide +kernel) (by decide +kernel)
set_option maxRecDepth 20000 in
theorem gX11_settleFor_X11_carryOutTo : GoodIn wsX11_settleFor (wsV RX11 204 RX11 yX11_carryOutTo wsX11_carryOutTo) := goodIn_app (goodIn_of _ (by decide +kernel)) ggX11_settleFor_X11_carryOutTo
set_option maxRecDepth 20000 in
theorem ggX11_settleFor_X11_size : GoodIn wsX11_settleFor wsX11_size := goodIn_r _ [69] (by decide +kernel) (by decide +kernel)
set_option maxRecDepth 20000 in
theorem gX11_settleFor_X11_size : GoodIn wsX11_settleFor (va_wsS RX11 100 yX11_size wsX11_size) := goodIn_app (goodIn_of _ (by decide +kernel)) ggX11_settleFor_X11_size
theorem dX11_settleFor_0 : decode cX11_settleFor 0 = .ok (.aload_n 0, 1) := by decide +kernel
theorem dX11_settleFor_1 : decode cX11_settleFor 1 = .ok (.iconst 0, 1) := by decide +kernel
theorem dX11_settleFor_2 : decode cX11_settleFor 2 = .ok (.putfield 29, 3) := by decide +kernel
theorem dX11_settleFor_5 : decode cX11_settleFor 5 = .ok (.aload_n 0, 1) := by decide +kernel
theorem dX11_settleFor_6 : decode cX11_settleFor 6 = .ok (.iload_n 1, 1) := by decide +kernel
theorem dX11_settleFor_7 : decode cX11_settleFor 7 = .ok (.invokevirtual 127, 3) := by decide +kernel
theorem dX11_settleFor_10 : decode cX11_settleFor 10 = .ok (.ifCond .eq 14, 3) := by decide +kernel
theorem dX11_settleFor_13 : decode cX11_settleFor 13 = .ok (.iload_n 2, 1) := by decide +kernel
theorem dX11_settleFor_14 : decode cX11_settleFor 14 = .ok (.iconst 0, 1) := by decide +kernel
theorem dX11_settleFor_15 : decode cX11_settleFor 15 = .ok (.sipush 4095, 3) := by decide +kernel
theorem dX11_settleFor_18 : decode cX11_settleFor 18 = .ok (.invokestatic 40, 3) := by decide +kernel
theorem dX11_settleFor_21 : decode cX11_settleFor 21 = .ok (.ifCond .ne 6, 3) := by decide +kernel
theorem dX11_settleFor_24 : decode cX11_settleFor 24 = .ok (.ldc 111, 2) := by decide +kernel
theorem dX11_settleFor_26 : decode cX11_settleFor 26 = .ok (.ireturn, 1) := by decide +kernel
theorem dX11_settleFor_27 : decode cX11_settleFor 27 = .ok (.aload_n 0, 1) := by decide +kernel
theorem dX11_settleFor_28 : decode cX11_settleFor 28 = .ok (.iload_n 1, 1) := by decide +kernel
theorem dX11_settleFor_29 : decode cX11_settleFor 29 = .ok (.invokevirtual 93, 3) := by decide +kernel
theorem dX11_settleFor_32 : decode cX11_settleFor 32 = .ok (.istore_n 3, 1) := by decide +kernel
theorem dX11_settleFor_33 : decode cX11_settleFor 33 = .ok (.ldc 196, 2) := by decide +kernel
theorem dX11_settleFor_35 : decode cX11_settleFor 35 = .ok (.istore 4, 2) := by decide +kernel
theorem dX11_settleFor_37 : decode cX11_settleFor 37 = .ok (.iconst 0, 1) := by decide +kernel
theorem dX11_settleFor_38 : decode cX11_settleFor 38 = .ok (.istore 5, 2) := by decide +kernel
theorem dX11_settleFor_40 : decode cX11_settleFor 40 = .ok (.iload 5, 2) := by decide +kernel
theorem dX11_settleFor_42 : decode cX11_settleFor 42 = .ok (.bipush 8, 2) := by decide +kernel
theorem dX11_settleFor_44 : decode cX11_settleFor 44 = .ok (.if_icmp .ge 56, 3) := by decide +kernel
theorem dX11_settleFor_47 : decode cX11_settleFor 47 = .ok (.iload 4, 2) := by decide +kernel
theorem dX11_settleFor_49 : decode cX11_settleFor 49 = .ok (.ldc 196, 2) := by decide +kernel
theorem dX11_settleFor_51 : decode cX11_settleFor 51 = .ok (.if_icmp .ne 49, 3) := by decide +kernel
theorem dX11_settleFor_54 : decode cX11_settleFor 54 = .ok (.aload_n 0, 1) := by decide +kernel
theorem dX11_settleFor_55 : decode cX11_settleFor 55 = .ok (.getfield 7, 3) := by decide +kernel
theorem dX11_settleFor_58 : decode cX11_settleFor 58 = .ok (.bipush 44, 2) := by decide +kernel
theorem dX11_settleFor_60 : decode cX11_settleFor 60 = .ok (.iconst 2, 1) := by decide +kernel
theorem dX11_settleFor_61 : decode cX11_settleFor 61 = .ok (.iload_n 1, 1) := by decide +kernel
theorem dX11_settleFor_62 : decode cX11_settleFor 62 = .ok (.imul, 1) := by decide +kernel
theorem dX11_settleFor_63 : decode cX11_settleFor 63 = .ok (.iadd, 1) := by decide +kernel
theorem dX11_settleFor_64 : decode cX11_settleFor 64 = .ok (.iconst 1, 1) := by decide +kernel
theorem dX11_settleFor_65 : decode cX11_settleFor 65 = .ok (.iadd, 1) := by decide +kernel
theorem dX11_settleFor_66 : decode cX11_settleFor 66 = .ok (.iload 5, 2) := by decide +kernel
theorem dX11_settleFor_68 : decode cX11_settleFor 68 = .ok (.iastore, 1) := by decide +kernel
theorem dX11_settleFor_69 : decode cX11_settleFor 69 = .ok (.aload_n 0, 1) := by decide +kernel
theorem dX11_settleFor_70 : decode cX11_settleFor 70 = .ok (.iload_n 1, 1) := by decide +kernel
theorem dX11_settleFor_71 : decode cX11_settleFor 71 = .ok (.invokevirtual 204, 3) := by decide +kernel
theorem dX11_settleFor_74 : decode cX11_settleFor 74 = .ok (.aload_n 0, 1) := by decide +kernel
theorem dX11_settleFor_75 : decode cX11_settleFor 75 = .ok (.getfield 83, 3) := by decide +kernel
theorem dX11_settleFor_78 : decode cX11_settleFor 78 = .ok (.invokestatic 100, 3) := by decide +kernel
theorem dX11_settleFor_81 : decode cX11_settleFor 81 = .ok (.iload_n 2, 1) := by decide +kernel
theorem dX11_settleFor_82 : decode cX11_settleFor 82 = .ok (.if_icmp .gt 8, 3) := by decide +kernel
theorem dX11_settleFor_85 : decode cX11_settleFor 85 = .ok (.iload 5, 2) := by decide +kernel
theorem dX11_settleFor_87 : decode cX11_settleFor 87 = .ok (.goto 5, 3) := by decide +kernel
theorem dX11_settleFor_90 : decode cX11_settleFor 90 = .ok (.ldc 196, 2) := by decide +kernel
theorem dX11_settleFor_92 : decode cX11_settleFor 92 = .ok (.istore 4, 2) := by decide +kernel
theorem dX11_settleFor_94 : decode cX11_settleFor 94 = .ok (.iinc 5 1, 3) := by decide +kernel
theorem dX11_settleFor_97 : decode cX11_settleFor 97 = .ok (.goto (-57), 3) := by decide +kernel
theorem dX11_settleFor_100 : decode cX11_settleFor 100 = .ok (.aload_n 0, 1) := by decide +kernel
theorem dX11_settleFor_101 : decode cX11_settleFor 101 = .ok (.getfield 7, 3) := by decide +kernel
theorem dX11_settleFor_104 : decode cX11_settleFor 104 = .ok (.bipush 44, 2) := by decide +kernel
theorem dX11_settleFor_106 : decode cX11_settleFor 106 = .ok (.iconst 2, 1) := by decide +kernel
theorem dX11_settleFor_107 : decode cX11_settleFor 107 = .ok (.iload_n 1, 1) := by decide +kernel
theorem dX11_settleFor_108 : decode cX11_settleFor 108 = .ok (.imul, 1) := by decide +kernel
theorem dX11_settleFor_109 : decode cX11_settleFor 109 = .ok (.iadd, 1) := by decide +kernel
theorem dX11_settleFor_110 : decode cX11_settleFor 110 = .ok (.iconst 1, 1) := by decide +kernel
theorem dX11_settleFor_111 : decode cX11_settleFor 111 = .ok (.iadd, 1) := by decide +kernel
theorem dX11_settleFor_112 : decode cX11_settleFor 112 = .ok (.iload_n 3, 1) := by decide +kernel
theorem dX11_settleFor_113 : decode cX11_settleFor 113 = .ok (.iastore, 1) := by decide +kernel
theorem dX11_settleFor_114 : decode cX11_settleFor 114 = .ok (.iload 4, 2) := by decide +kernel
theorem dX11_settleFor_116 : decode cX11_settleFor 116 = .ok (.ireturn, 1) := by decide +kernel
set_option maxRecDepth 20000 in
theorem ggX11_bestRule_X11_carries : GoodIn wsX11_bestRule wsX11_carries := goodIn_r _ [6, 7, 8, 9, 10, 11, 5, 12, 13, 14, 15, 16, 17, 18, 19, 20, 21, 22, 23, 24, 25, 26, 27, 28, 29, 30, 31, 32, 33, 34, 35, 36, 37, 38, 39, 40, 41, 42, 43, 44, 45, 46, 47, 48, 49, 50, 51, 52, 53, 54, 55, 56, 57, 58, 59, 60, 83, 84, 85, 86, 87, 88, 89, 90, 91, 92, 93, 94, 95, 96, 97, 98, 99] (by decide +kernel) (by decide +kernel)
set_option maxRecDepth 20000 in
theorem gX11_bestRule_X11_carries : GoodIn wsX11_bestRule (wsV RX11 208 RX11 yX11_carries wsX11_carries) := goodIn_app (goodIn_of _ (by decide +kernel)) ggX11_bestRule_X11_carries
set_option maxRecDepth 20000 in
theorem ggX11_bestRule_X11_hold : GoodIn wsX11_bestRule wsX11_hold := goodIn_r _ [64, 65, 7, 83, 84, 85, 86, 87, 88, 89, 90, 91, 92, 93, 94, 95, 96, 97, 98, 99] (by decide +kernel) (by decide +kernel)
set_option maxRecDepth 20000 in
theorem gX11_bestRule_X11_hold : GoodIn wsX11_bestRule (wsV RX11 182 RX11 yX11_hold wsX11_hold) := goodIn_app (goodIn_of _ (by decide +kernel)) ggX11_bestRule_X11_hold
set_option maxRecDepth 20000 in
theorem ggX11_bestRule_X11_orderBy : GoodIn wsX11_bestRule wsX11_orderBy := goodIn_r _ [69, 7, 70, 71, 72, 73, 5, 74, 75, 76, 77, 78, 16, 17, 18, 19, 42, 43, 44, 45, 34, 35, 36, 37, 38, 39, 40, 41, 46, 47, 48, 83, 84, 85, 86, 87, 88, 89, 90, 91, 92, 93, 94, 95, 96, 97, 98, 99] (by decide +kernel) (by decide +kernel)
set_option maxRecDepth 20000 in
theorem gX11_bestRule_X11_orderBy : GoodIn wsX11_bestRule (wsV RX11 136 RX11 yX11_orderBy wsX11_orderBy) := goodIn_app (goodIn_of _ (by decide +kernel)) ggX11_bestRule_X11_orderBy
set_option maxRecDepth 20000 in
theorem ggX11_bestRule_X11_release : GoodIn wsX11_bestRule wsX11_release := goodIn_r _ [82, 7, 65, 83, 84, 85, 86, 87, 88, 89, 90, 91, 92, 93, 94, 95, 96, 97, 98, 99] (by decide +kernel) (by decide +kernel)
set_option maxRecDepth 20000 in
theorem gX11_bestRule_X11_release : GoodIn wsX11_bestRule (wsV RX11 211 RX11 yX11_release wsX11_release) := goodIn_app (goodIn_of _ (by decide +kernel)) ggX11_bestRule_X11_release
theorem dX11_bestRule_0 : decode cX11_bestRule 0 = .ok (.aload_n 0, 1) := by decide +kernel
theorem dX11_bestRule_1 : decode cX11_bestRule 1 = .ok (.iconst 0, 1) := by decide +kernel
theorem dX11_bestRule_2 : decode cX11_bestRule 2 = .ok (.putfield 29, 3) := by decide +kernel
theorem dX11_bestRule_5 : decode cX11_bestRule 5 = .ok (.iconst (-1), 1) := by decide +kernel
theorem dX11_bestRule_6 : decode cX11_bestRule 6 = .ok (.istore_n 1, 1) := by decide +kernel
theorem dX11_bestRule_7 : decode cX11_bestRule 7 = .ok (.aload_n 0, 1) := by decide +kernel
theorem dX11_bestRule_8 : decode cX11_bestRule 8 = .ok (.invokevirtual 208, 3) := by decide +kernel
theorem dX11_bestRule_11 : decode cX11_bestRule 11 = .ok (.istore_n 2, 1) := by decide +kernel
theorem dX11_bestRule_12 : decode cX11_bestRule 12 = .ok (.iconst 0, 1) := by decide +kernel
theorem dX11_bestRule_13 : decode cX11_bestRule 13 = .ok (.istore_n 3, 1) := by decide +kernel
theorem dX11_bestRule_14 : decode cX11_bestRule 14 = .ok (.iload_n 3, 1) := by decide +kernel
theorem dX11_bestRule_15 : decode cX11_bestRule 15 = .ok (.iconst 4, 1) := by decide +kernel
theorem dX11_bestRule_16 : decode cX11_bestRule 16 = .ok (.if_icmp .ge 64, 3) := by decide +kernel
theorem dX11_bestRule_19 : decode cX11_bestRule 19 = .ok (.aload_n 0, 1) := by decide +kernel
theorem dX11_bestRule_20 : decode cX11_bestRule 20 = .ok (.invokevirtual 182, 3) := by decide +kernel
theorem dX11_bestRule_23 : decode cX11_bestRule 23 = .ok (.aload_n 0, 1) := by decide +kernel
theorem dX11_bestRule_24 : decode cX11_bestRule 24 = .ok (.iload_n 3, 1) := by decide +kernel
theorem dX11_bestRule_25 : decode cX11_bestRule 25 = .ok (.invokevirtual 136, 3) := by decide +kernel
theorem dX11_bestRule_28 : decode cX11_bestRule 28 = .ok (.istore 4, 2) := by decide +kernel
theorem dX11_bestRule_30 : decode cX11_bestRule 30 = .ok (.iload 4, 2) := by decide +kernel
theorem dX11_bestRule_32 : decode cX11_bestRule 32 = .ok (.ifCond .ge 7, 3) := by decide +kernel
theorem dX11_bestRule_35 : decode cX11_bestRule 35 = .ok (.iconst 0, 1) := by decide +kernel
theorem dX11_bestRule_36 : decode cX11_bestRule 36 = .ok (.goto 7, 3) := by decide +kernel
theorem dX11_bestRule_39 : decode cX11_bestRule 39 = .ok (.aload_n 0, 1) := by decide +kernel
theorem dX11_bestRule_40 : decode cX11_bestRule 40 = .ok (.invokevirtual 208, 3) := by decide +kernel
theorem dX11_bestRule_43 : decode cX11_bestRule 43 = .ok (.istore 5, 2) := by decide +kernel
theorem dX11_bestRule_45 : decode cX11_bestRule 45 = .ok (.aload_n 0, 1) := by decide +kernel
theorem dX11_bestRule_46 : decode cX11_bestRule 46 = .ok (.invokevirtual 211, 3) := by decide +kernel
theorem dX11_bestRule_49 : decode cX11_bestRule 49 = .ok (.iload 5, 2) := by decide +kernel
theorem dX11_bestRule_51 : decode cX11_bestRule 51 = .ok (.iload_n 2, 1) := by decide +kernel
theorem dX11_bestRule_52 : decode cX11_bestRule 52 = .ok (.if_icmp .ge 7, 3) := by decide +kernel
theorem dX11_bestRule_55 : decode cX11_bestRule 55 = .ok (.iload_n 3, 1) := by decide +kernel
theorem dX11_bestRule_56 : decode cX11_bestRule 56 = .ok (.goto 4, 3) := by decide +kernel
theorem dX11_bestRule_59 : decode cX11_bestRule 59 = .ok (.iload_n 1, 1) := by decide +kernel
theorem dX11_bestRule_60 : decode cX11_bestRule 60 = .ok (.istore_n 1, 1) := by decide +kernel
theorem dX11_bestRule_61 : decode cX11_bestRule 61 = .ok (.iload 5, 2) := by decide +kernel
theorem dX11_bestRule_63 : decode cX11_bestRule 63 = .ok (.iload_n 2, 1) := by decide +kernel
theorem dX11_bestRule_64 : decode cX11_bestRule 64 = .ok (.if_icmp .ge 8, 3) := by decide +kernel
theorem dX11_bestRule_67 : decode cX11_bestRule 67 = .ok (.iload 5, 2) := by decide +kernel
theorem dX11_bestRule_69 : decode cX11_bestRule 69 = .ok (.goto 4, 3) := by decide +kernel
theorem dX11_bestRule_72 : decode cX11_bestRule 72 = .ok (.iload_n 2, 1) := by decide +kernel
theorem dX11_bestRule_73 : decode cX11_bestRule 73 = .ok (.istore_n 2, 1) := by decide +kernel
theorem dX11_bestRule_74 : decode cX11_bestRule 74 = .ok (.iinc 3 1, 3) := by decide +kernel
theorem dX11_bestRule_77 : decode cX11_bestRule 77 = .ok (.goto (-63), 3) := by decide +kernel
theorem dX11_bestRule_80 : decode cX11_bestRule 80 = .ok (.iload_n 1, 1) := by decide +kernel
theorem dX11_bestRule_81 : decode cX11_bestRule 81 = .ok (.ireturn, 1) := by decide +kernel
set_option maxRecDepth 20000 in
theorem ggX11_groundsNeeded_X11_begin : GoodIn wsX11_groundsNeeded wsX11_begin := goodIn_r _ [10, 11, 3, 2, 4, 54, 55, 56, 57, 58, 59, 60, 61, 62, 63, 64, 65, 66, 67, 68, 69, 70] (by decide +kernel) (by decide +kernel)
set_option maxRecDepth 20000 in
theorem gX11_groundsNeeded_X11_begin : GoodIn wsX11_groundsNeeded (wsV RX11 86 RX11 yX11_begin wsX11_begin) := goodIn_app (goodIn_of _ (by decide +kernel)) ggX11_groundsNeeded_X11_begin
set_option maxRecDepth 20000 in
theorem ggX11_groundsNeeded_X11_placeOf : GoodIn wsX11_groundsNeeded wsX11_placeOf := goodIn_r _ [15, 2, 54, 55, 56, 57, 58, 59, 60, 61, 62, 63, 64, 65, 66, 67, 68, 69, 70] (by decide +kernel) (by decide +kernel)
set_option maxRecDepth 20000 in
theorem gX11_groundsNeeded_X11_placeOf : GoodIn wsX11_groundsNeeded (wsV RX11 89 RX11 yX11_placeOf wsX11_placeOf) := goodIn_app (goodIn_of _ (by decide +kernel)) ggX11_groundsNeeded_X11_placeOf
set_option maxRecDepth 20000 in
theorem ggX11_groundsNeeded_X11_settleOf : GoodIn wsX11_groundsNeeded wsX11_settleOf := goodIn_r _ [19, 2, 54, 55, 56, 57, 58, 59, 60, 61, 62, 63, 64, 65, 66, 67, 68, 69, 70] (by decide +kernel) (by decide +kernel)
set_option maxRecDepth 20000 in
theorem gX11_groundsNeeded_X11_settleOf : GoodIn wsX11_groundsNeeded (wsV RX11 93 RX11 yX11_settleOf wsX11_settleOf) := goodIn_app (goodIn_of _ (by decide +kernel)) ggX11_groundsNeeded_X11_settleOf
set_option maxRecDepth 20000 in
theorem ggX11_groundsNeeded_X11_carryOut : GoodIn wsX11_groundsNeeded wsX11_carryOut := goodIn_r _ [23, 3, 4, 24, 5, 25, 26, 27, 28, 9, 29, 30, 31, 32, 33, 2, 34, 35, 36, 37, 38, 39, 40, 41, 42, 43, 44, 45, 46, 47, 48, 49, 50, 51, 52, 53, 54, 55, 56, 57, 58, 59, 60, 61, 62, 63, 64, 65, 66, 67, 68, 69, 70] (by decide +kernel) (by decide +kernel)
set_option maxRecDepth 20000 in
theorem gX11_groundsNeeded_X11_carryOut : GoodIn wsX11_groundsNeeded (wsV RX11 96 RX11 yX11_carryOut wsX11_carryOut) := goodIn_app (goodIn_of _ (by decide +kernel)) ggX11_groundsNeeded_X11_carryOut
set_option maxRecDepth 20000 in
theorem ggX11_groundsNeeded_X11_slot : GoodIn wsX11_groundsNeeded wsX11_slot := goodIn_r _ [29, 30, 31, 32, 9, 33, 2, 34, 35, 36, 37, 38, 39, 40, 41, 42, 43, 44, 54, 55, 56, 57, 58, 59, 60, 61, 62, 63, 64, 65, 66, 67, 68, 69, 70] (by decide +kernel) (by decide +kernel)
set_option maxRecDepth 20000 in
theorem gX11_groundsNeeded_X11_slot : GoodIn wsX11_groundsNeeded (wsV RX11 69 RX11 yX11_slot wsX11_slot) := goodIn_app (goodIn_of _ (by decide +kernel)) ggX11_groundsNeeded_X11_slot
theorem dX11_groundsNeeded_0 : decode cX11_groundsNeeded 0 = .ok (.aload_n 0, 1) := by decide +kernel
theorem dX11_groundsNeeded_1 : decode cX11_groundsNeeded 1 = .ok (.iconst 0, 1) := by decide +kernel
theorem dX11_groundsNeeded_2 : decode cX11_groundsNeeded 2 = .ok (.putfield 29, 3) := by decide +kernel
theorem dX11_groundsNeeded_5 : decode cX11_groundsNeeded 5 = .ok (.iconst 0, 1) := by decide +kernel
theorem dX11_groundsNeeded_6 : decode cX11_groundsNeeded 6 = .ok (.istore_n 1, 1) := by decide +kernel
theorem dX11_groundsNeeded_7 : decode cX11_groundsNeeded 7 = .ok (.aload_n 0, 1) := by decide +kernel
theorem dX11_groundsNeeded_8 : decode cX11_groundsNeeded 8 = .ok (.invokevirtual 86, 3) := by decide +kernel
theorem dX11_groundsNeeded_11 : decode cX11_groundsNeeded 11 = .ok (.iconst 0, 1) := by decide +kernel
theorem dX11_groundsNeeded_12 : decode cX11_groundsNeeded 12 = .ok (.istore_n 2, 1) := by decide +kernel
theorem dX11_groundsNeeded_13 : decode cX11_groundsNeeded 13 = .ok (.iload_n 2, 1) := by decide +kernel
theorem dX11_groundsNeeded_14 : decode cX11_groundsNeeded 14 = .ok (.aload_n 0, 1) := by decide +kernel
theorem dX11_groundsNeeded_15 : decode cX11_groundsNeeded 15 = .ok (.getfield 7, 3) := by decide +kernel
theorem dX11_groundsNeeded_18 : decode cX11_groundsNeeded 18 = .ok (.bipush 43, 2) := by decide +kernel
theorem dX11_groundsNeeded_20 : decode cX11_groundsNeeded 20 = .ok (.iaload, 1) := by decide +kernel
theorem dX11_groundsNeeded_21 : decode cX11_groundsNeeded 21 = .ok (.if_icmp .ge 79, 3) := by decide +kernel
theorem dX11_groundsNeeded_24 : decode cX11_groundsNeeded 24 = .ok (.aload_n 0, 1) := by decide +kernel
theorem dX11_groundsNeeded_25 : decode cX11_groundsNeeded 25 = .ok (.getfield 63, 3) := by decide +kernel
theorem dX11_groundsNeeded_28 : decode cX11_groundsNeeded 28 = .ok (.fstore_n 3, 1) := by decide +kernel
theorem dX11_groundsNeeded_29 : decode cX11_groundsNeeded 29 = .ok (.aload_n 0, 1) := by decide +kernel
theorem dX11_groundsNeeded_30 : decode cX11_groundsNeeded 30 = .ok (.getfield 66, 3) := by decide +kernel
theorem dX11_groundsNeeded_33 : decode cX11_groundsNeeded 33 = .ok (.istore 4, 2) := by decide +kernel
theorem dX11_groundsNeeded_35 : decode cX11_groundsNeeded 35 = .ok (.aload_n 0, 1) := by decide +kernel
theorem dX11_groundsNeeded_36 : decode cX11_groundsNeeded 36 = .ok (.aload_n 0, 1) := by decide +kernel
theorem dX11_groundsNeeded_37 : decode cX11_groundsNeeded 37 = .ok (.iload_n 2, 1) := by decide +kernel
theorem dX11_groundsNeeded_38 : decode cX11_groundsNeeded 38 = .ok (.invokevirtual 89, 3) := by decide +kernel
theorem dX11_groundsNeeded_41 : decode cX11_groundsNeeded 41 = .ok (.aload_n 0, 1) := by decide +kernel
theorem dX11_groundsNeeded_42 : decode cX11_groundsNeeded 42 = .ok (.iload_n 2, 1) := by decide +kernel
theorem dX11_groundsNeeded_43 : decode cX11_groundsNeeded 43 = .ok (.invokevirtual 93, 3) := by decide +kernel
theorem dX11_groundsNeeded_46 : decode cX11_groundsNeeded 46 = .ok (.invokevirtual 96, 3) := by decide +kernel
theorem dX11_groundsNeeded_49 : decode cX11_groundsNeeded 49 = .ok (.aload_n 0, 1) := by decide +kernel
theorem dX11_groundsNeeded_50 : decode cX11_groundsNeeded 50 = .ok (.getfield 80, 3) := by decide +kernel
theorem dX11_groundsNeeded_53 : decode cX11_groundsNeeded 53 = .ok (.ifCond .eq 41, 3) := by decide +kernel
theorem dX11_groundsNeeded_56 : decode cX11_groundsNeeded 56 = .ok (.iinc 1 1, 3) := by decide +kernel
theorem dX11_groundsNeeded_59 : decode cX11_groundsNeeded 59 = .ok (.aload_n 0, 1) := by decide +kernel
theorem dX11_groundsNeeded_60 : decode cX11_groundsNeeded 60 = .ok (.aload_n 0, 1) := by decide +kernel
theorem dX11_groundsNeeded_61 : decode cX11_groundsNeeded 61 = .ok (.fload_n 3, 1) := by decide +kernel
theorem dX11_groundsNeeded_62 : decode cX11_groundsNeeded 62 = .ok (.bipush 8, 2) := by decide +kernel
theorem dX11_groundsNeeded_64 : decode cX11_groundsNeeded 64 = .ok (.iload 4, 2) := by decide +kernel
theorem dX11_groundsNeeded_66 : decode cX11_groundsNeeded 66 = .ok (.invokevirtual 69, 3) := by decide +kernel
theorem dX11_groundsNeeded_69 : decode cX11_groundsNeeded 69 = .ok (.putfield 63, 3) := by decide +kernel
theorem dX11_groundsNeeded_72 : decode cX11_groundsNeeded 72 = .ok (.aload_n 0, 1) := by decide +kernel
theorem dX11_groundsNeeded_73 : decode cX11_groundsNeeded 73 = .ok (.iload 4, 2) := by decide +kernel
theorem dX11_groundsNeeded_75 : decode cX11_groundsNeeded 75 = .ok (.iconst 1, 1) := by decide +kernel
theorem dX11_groundsNeeded_76 : decode cX11_groundsNeeded 76 = .ok (.iadd, 1) := by decide +kernel
theorem dX11_groundsNeeded_77 : decode cX11_groundsNeeded 77 = .ok (.putfield 66, 3) := by decide +kernel
theorem dX11_groundsNeeded_80 : decode cX11_groundsNeeded 80 = .ok (.aload_n 0, 1) := by decide +kernel
theorem dX11_groundsNeeded_81 : decode cX11_groundsNeeded 81 = .ok (.aload_n 0, 1) := by decide +kernel
theorem dX11_groundsNeeded_82 : decode cX11_groundsNeeded 82 = .ok (.iload_n 2, 1) := by decide +kernel
theorem dX11_groundsNeeded_83 : decode cX11_groundsNeeded 83 = .ok (.invokevirtual 89, 3) := by decide +kernel
theorem dX11_groundsNeeded_86 : decode cX11_groundsNeeded 86 = .ok (.aload_n 0, 1) := by decide +kernel
theorem dX11_groundsNeeded_87 : decode cX11_groundsNeeded 87 = .ok (.iload_n 2, 1) := by decide +kernel
theorem dX11_groundsNeeded_88 : decode cX11_groundsNeeded 88 = .ok (.invokevirtual 93, 3) := by decide +kernel
theorem dX11_groundsNeeded_91 : decode cX11_groundsNeeded 91 = .ok (.invokevirtual 96, 3) := by decide +kernel
theorem dX11_groundsNeeded_94 : decode cX11_groundsNeeded 94 = .ok (.iinc 2 1, 3) := by decide +kernel
theorem dX11_groundsNeeded_97 : decode cX11_groundsNeeded 97 = .ok (.goto (-84), 3) := by decide +kernel
theorem dX11_groundsNeeded_100 : decode cX11_groundsNeeded 100 = .ok (.iload_n 1, 1) := by decide +kernel
theorem dX11_groundsNeeded_101 : decode cX11_groundsNeeded 101 = .ok (.ireturn, 1) := by decide +kernel
