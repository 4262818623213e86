theorem dX3_work_81 : decode cX3_work 81 = .ok (.iaload, 1) := by decide +kernel
theorem dX3_work_82 : decode cX3_work 82 = .ok (.ifCond .ne 17, 3) := by decide +kernel
theorem dX3_work_85 : decode cX3_work 85 = .ok (.aload_n 0, 1) := by decide +kernel
theorem dX3_work_86 : decode cX3_work 86 = .ok (.getfield 12, 3) := by decide +kernel
theorem dX3_work_89 : decode cX3_work 89 = .ok (.iload_n 3, 1) := by decide +kernel
theorem dX3_work_90 : decode cX3_work 90 = .ok (.invokevirtual 107, 3) := by decide +kernel
theorem dX3_work_93 : decode cX3_work 93 = .ok (.iload_n 1, 1) := by decide +kernel
theorem dX3_work_94 : decode cX3_work 94 = .ok (.iconst 1, 1) := by decide +kernel
theorem dX3_work_95 : decode cX3_work 95 = .ok (.iload_n 3, 1) := by decide +kernel
theorem dX3_work_96 : decode cX3_work 96 = .ok (.ishl, 1) := by decide +kernel
theorem dX3_work_97 : decode cX3_work 97 = .ok (.ior, 1) := by decide +kernel
theorem dX3_work_98 : decode cX3_work 98 = .ok (.istore_n 1, 1) := by decide +kernel
theorem dX3_work_99 : decode cX3_work 99 = .ok (.iinc 3 1, 3) := by decide +kernel
theorem dX3_work_102 : decode cX3_work 102 = .ok (.goto (-64), 3) := by decide +kernel
theorem dX3_work_105 : decode cX3_work 105 = .ok (.iload_n 1, 1) := by decide +kernel
theorem dX3_work_106 : decode cX3_work 106 = .ok (.ireturn, 1) := by decide +kernel
set_option maxRecDepth 20000 in
theorem ggX3_growOld_X11_contains : GoodIn wsX3_growOld wsX11_contains := goodIn_r _ [5] rfl (by decide +kernel)
set_option maxRecDepth 20000 in
theorem gX3_growOld_X11_contains_n100 : GoodIn wsX3_growOld (wsX11_contains) := ggX3_growOld_X11_contains
set_option maxRecDepth 20000 in
theorem ggX3_growOld_X3_isContinued : GoodIn wsX3_growOld wsX3_isContinued := goodIn_r _ [10, 2, 1, 20, 21, 22, 23, 24, 40, 41, 42, 43, 44, 45, 46, 47, 48, 49, 50, 51, 52, 53, 54, 55, 56, 25, 26, 27, 28, 29, 30, 31, 32, 33, 34, 35, 36, 37, 38, 39] rfl (by decide +kernel)
set_option maxRecDepth 20000 in
theorem gX3_growOld_X3_isContinued : GoodIn wsX3_growOld (wsV RX3 113 RX3 yX3_isContinued wsX3_isContinued) := goodIn_app (goodIn_of _ (by decide +kernel)) ggX3_growOld_X3_isContinued
set_option maxRecDepth 20000 in
theorem ggX3_growOld_X8_burn : GoodIn wsX3_growOld wsX8_burn := goodIn_r _ [15, 16, 17, 18, 19, 25, 26, 27, 28, 29, 30, 31, 32, 33, 34, 35, 36, 37, 38, 39] rfl (by decide +kernel)
set_option maxRecDepth 20000 in
theorem gX3_growOld_X8_burn : GoodIn wsX3_growOld (wsV RX3 123 RX8 yX8_burn wsX8_burn) := goodIn_app (goodIn_of _ (by decide +kernel)) ggX3_growOld_X8_burn
theorem dX3_growOld_0 : decode cX3_growOld 0 = .ok (.aload_n 0, 1) := by decide +kernel
theorem dX3_growOld_1 : decode cX3_growOld 1 = .ok (.getfield 12, 3) := by decide +kernel
theorem dX3_growOld_4 : decode cX3_growOld 4 = .ok (.getfield 47, 3) := by decide +kernel
theorem dX3_growOld_7 : decode cX3_growOld 7 = .ok (.aload_n 0, 1) := by decide +kernel
theorem dX3_growOld_8 : decode cX3_growOld 8 = .ok (.getfield 28, 3) := by decide +kernel
theorem dX3_growOld_11 : decode cX3_growOld 11 = .ok (.getfield 110, 3) := by decide +kernel
theorem dX3_growOld_14 : decode cX3_growOld 14 = .ok (.iand, 1) := by decide +kernel
theorem dX3_growOld_15 : decode cX3_growOld 15 = .ok (.iload_n 1, 1) := by decide +kernel
theorem dX3_growOld_16 : decode cX3_growOld 16 = .ok (.iconst (-1), 1) := by decide +kernel
theorem dX3_growOld_17 : decode cX3_growOld 17 = .ok (.ixor, 1) := by decide +kernel
theorem dX3_growOld_18 : decode cX3_growOld 18 = .ok (.iand, 1) := by decide +kernel
theorem dX3_growOld_19 : decode cX3_growOld 19 = .ok (.istore_n 2, 1) := by decide +kernel
theorem dX3_growOld_20 : decode cX3_growOld 20 = .ok (.iconst 0, 1) := by decide +kernel
theorem dX3_growOld_21 : decode cX3_growOld 21 = .ok (.istore_n 3, 1) := by decide +kernel
theorem dX3_growOld_22 : decode cX3_growOld 22 = .ok (.iload_n 3, 1) := by decide +kernel
theorem dX3_growOld_23 : decode cX3_growOld 23 = .ok (.aload_n 0, 1) := by decide +kernel
theorem dX3_growOld_24 : decode cX3_growOld 24 = .ok (.getfield 28, 3) := by decide +kernel
theorem dX3_growOld_27 : decode cX3_growOld 27 = .ok (.getfield 91, 3) := by decide +kernel
theorem dX3_growOld_30 : decode cX3_growOld 30 = .ok (.getfield 95, 3) := by decide +kernel
theorem dX3_growOld_33 : decode cX3_growOld 33 = .ok (.if_icmp .ge 65, 3) := by decide +kernel
theorem dX3_growOld_36 : decode cX3_growOld 36 = .ok (.iload_n 2, 1) := by decide +kernel
theorem dX3_growOld_37 : decode cX3_growOld 37 = .ok (.iload_n 3, 1) := by decide +kernel
theorem dX3_growOld_38 : decode cX3_growOld 38 = .ok (.invokestatic 100, 3) := by decide +kernel
theorem dX3_growOld_41 : decode cX3_growOld 41 = .ok (.ifCond .eq 51, 3) := by decide +kernel
theorem dX3_growOld_44 : decode cX3_growOld 44 = .ok (.aload_n 0, 1) := by decide +kernel
theorem dX3_growOld_45 : decode cX3_growOld 45 = .ok (.iload_n 3, 1) := by decide +kernel
theorem dX3_growOld_46 : decode cX3_growOld 46 = .ok (.invokevirtual 113, 3) := by decide +kernel
theorem dX3_growOld_49 : decode cX3_growOld 49 = .ok (.ifCond .ne 43, 3) := by decide +kernel
theorem dX3_growOld_52 : decode cX3_growOld 52 = .ok (.aload_n 0, 1) := by decide +kernel
theorem dX3_growOld_53 : decode cX3_growOld 53 = .ok (.getfield 12, 3) := by decide +kernel
theorem dX3_growOld_56 : decode cX3_growOld 56 = .ok (.getfield 117, 3) := by decide +kernel
theorem dX3_growOld_59 : decode cX3_growOld 59 = .ok (.iload_n 3, 1) := by decide +kernel
theorem dX3_growOld_60 : decode cX3_growOld 60 = .ok (.dup2, 1) := by decide +kernel
theorem dX3_growOld_61 : decode cX3_growOld 61 = .ok (.iaload, 1) := by decide +kernel
theorem dX3_growOld_62 : decode cX3_growOld 62 = .ok (.iconst 1, 1) := by decide +kernel
theorem dX3_growOld_63 : decode cX3_growOld 63 = .ok (.iadd, 1) := by decide +kernel
theorem dX3_growOld_64 : decode cX3_growOld 64 = .ok (.iastore, 1) := by decide +kernel
theorem dX3_growOld_65 : decode cX3_growOld 65 = .ok (.aload_n 0, 1) := by decide +kernel
theorem dX3_growOld_66 : decode cX3_growOld 66 = .ok (.getfield 12, 3) := by decide +kernel
theorem dX3_growOld_69 : decode cX3_growOld 69 = .ok (.getfield 117, 3) := by decide +kernel
theorem dX3_growOld_72 : decode cX3_growOld 72 = .ok (.iload_n 3, 1) := by decide +kernel
theorem dX3_growOld_73 : decode cX3_growOld 73 = .ok (.iaload, 1) := by decide +kernel
theorem dX3_growOld_74 : decode cX3_growOld 74 = .ok (.aload_n 0, 1) := by decide +kernel
theorem dX3_growOld_75 : decode cX3_growOld 75 = .ok (.getfield 28, 3) := by decide +kernel
theorem dX3_growOld_78 : decode cX3_growOld 78 = .ok (.getfield 120, 3) := by decide +kernel
theorem dX3_growOld_81 : decode cX3_growOld 81 = .ok (.if_icmp .le 11, 3) := by decide +kernel
theorem dX3_growOld_84 : decode cX3_growOld 84 = .ok (.aload_n 0, 1) := by decide +kernel
theorem dX3_growOld_85 : decode cX3_growOld 85 = .ok (.getfield 12, 3) := by decide +kernel
theorem dX3_growOld_88 : decode cX3_growOld 88 = .ok (.iload_n 3, 1) := by decide +kernel
theorem dX3_growOld_89 : decode cX3_growOld 89 = .ok (.invokevirtual 123, 3) := by decide +kernel
theorem dX3_growOld_92 : decode cX3_growOld 92 = .ok (.iinc 3 1, 3) := by decide +kernel
theorem dX3_growOld_95 : decode cX3_growOld 95 = .ok (.goto (-73), 3) := by decide +kernel
theorem dX3_growOld_98 : decode cX3_growOld 98 = .ok (.return_, 1) := by decide +kernel
set_option maxRecDepth 20000 in
theorem ggX3_startSteps_X3_readySteps : GoodIn wsX3_startSteps wsX3_readySteps := goodIn_r _ [8, 1, 3, 9, 10, 11, 12, 13, 14, 15, 16, 17, 47, 48, 49, 50, 51, 72, 73, 74, 75, 76, 77, 78, 79, 80, 81, 82, 83, 84, 85, 86, 52, 53, 54, 55, 56, 57, 58, 59, 60, 61, 62, 63, 64, 65, 66, 67, 68, 69, 70, 71] rfl (by decide +kernel)
set_option maxRecDepth 20000 in
theorem gX3_startSteps_X3_readySteps : GoodIn wsX3_startSteps (wsV RX3 126 RX3 yX3_readySteps wsX3_readySteps) := goodIn_app (goodIn_of _ (by decide +kernel)) ggX3_startSteps_X3_readySteps
set_option maxRecDepth 20000 in
theorem ggX3_startSteps_X11_contains : GoodIn wsX3_startSteps wsX11_contains := goodIn_r _ [17] rfl (by decide +kernel)
set_option maxRecDepth 20000 in
theorem gX3_startSteps_X11_contains_n100 : GoodIn wsX3_startSteps (wsX11_contains) := ggX3_startSteps_X11_contains
set_option maxRecDepth 20000 in
theorem ggX3_startSteps_X3_hasFreeCook : GoodIn wsX3_startSteps wsX3_hasFreeCook := goodIn_r _ [21, 1, 3, 15, 16, 17, 22, 23, 24, 25, 26, 27, 28, 47, 48, 49, 50, 51, 52, 53, 54, 55, 56, 57, 58, 59, 60, 61, 62, 63, 64, 65, 66, 67, 68, 72, 73, 74, 75, 76, 77, 78, 79, 80, 81, 82, 83, 84, 85, 86] rfl (by decide +kernel)
set_option maxRecDepth 20000 in
theorem gX3_startSteps_X3_hasFreeCook : GoodIn wsX3_startSteps (wsV RX3 129 RX3 yX3_hasFreeCook wsX3_hasFreeCook) := goodIn_app (goodIn_of _ (by decide +kernel)) ggX3_startSteps_X3_hasFreeCook
set_option maxRecDepth 20000 in
theorem ggX3_startSteps_X3_hasFreePan : GoodIn wsX3_startSteps wsX3_hasFreePan := goodIn_r _ [32, 1, 33, 34, 35, 7, 36, 3, 22, 23, 24, 25, 26, 27, 28, 47, 48, 49, 50, 51, 52, 53, 54, 55, 56, 57, 58, 59, 60, 61, 62, 63, 64, 65, 66, 67, 68, 72, 73, 74, 75, 76, 77, 78, 79, 80, 81, 82, 83, 84, 85, 86, 69, 70, 71] rfl (by decide +kernel)
set_option maxRecDepth 20000 in
theorem gX3_startSteps_X3_hasFreePan : GoodIn wsX3_startSteps (wsV RX3 132 RX3 yX3_hasFreePan wsX3_hasFreePan) := goodIn_app (goodIn_of _ (by decide +kernel)) ggX3_startSteps_X3_hasFreePan
set_option maxRecDepth 20000 in
theorem ggX3_startSteps_X8_start : GoodIn wsX3_startSteps wsX8_start := goodIn_r _ [41, 42, 43, 44, 45, 46, 72, 73, 74, 75, 76, 77, 78, 79, 80, 81, 82, 83, 84, 85, 86] rfl (by decide +kernel)
set_option maxRecDepth 20000 in
theorem gX3_startSteps_X8_start : GoodIn wsX3_startSteps (wsV RX3 135 RX8 yX8_start wsX8_start) := goodIn_app (goodIn_of _ (by decide +kernel)) ggX3_startSteps_X8_start
theorem dX3_startSteps_0 : decode cX3_startSteps 0 = .ok (.aload_n 0, 1) := by decide +kernel
theorem dX3_startSteps_1 : decode cX3_startSteps 1 = .ok (.invokevirtual 126, 3) := by decide +kernel
theorem dX3_startSteps_4 : decode cX3_startSteps 4 = .ok (.istore_n 1, 1) := by decide +kernel
theorem dX3_startSteps_5 : decode cX3_startSteps 5 = .ok (.iconst 0, 1) := by decide +kernel
theorem dX3_startSteps_6 : decode cX3_startSteps 6 = .ok (.istore_n 2, 1) := by decide +kernel
theorem dX3_startSteps_7 : decode cX3_startSteps 7 = .ok (.iload_n 2, 1) := by decide +kernel
theorem dX3_startSteps_8 : decode cX3_startSteps 8 = .ok (.aload_n 0, 1) := by decide +kernel
theorem dX3_startSteps_9 : decode cX3_startSteps 9 = .ok (.getfield 28, 3) := by decide +kernel
theorem dX3_startSteps_12 : decode cX3_startSteps 12 = .ok (.getfield 91, 3) := by decide +kernel
theorem dX3_startSteps_15 : decode cX3_startSteps 15 = .ok (.getfield 95, 3) := by decide +kernel
theorem dX3_startSteps_18 : decode cX3_startSteps 18 = .ok (.if_icmp .ge 48, 3) := by decide +kernel
theorem dX3_startSteps_21 : decode cX3_startSteps 21 = .ok (.aload_n 0, 1) := by decide +kernel
theorem dX3_startSteps_22 : decode cX3_startSteps 22 = .ok (.getfield 22, 3) := by decide +kernel
theorem dX3_startSteps_25 : decode cX3_startSteps 25 = .ok (.iload_n 2, 1) := by decide +kernel
theorem dX3_startSteps_26 : decode cX3_startSteps 26 = .ok (.iaload, 1) := by decide +kernel
theorem dX3_startSteps_27 : decode cX3_startSteps 27 = .ok (.istore_n 3, 1) := by decide +kernel
theorem dX3_startSteps_28 : decode cX3_startSteps 28 = .ok (.iload_n 1, 1) := by decide +kernel
theorem dX3_startSteps_29 : decode cX3_startSteps 29 = .ok (.iload_n 3, 1) := by decide +kernel
theorem dX3_startSteps_30 : decode cX3_startSteps 30 = .ok (.invokestatic 100, 3) := by decide +kernel
theorem dX3_startSteps_33 : decode cX3_startSteps 33 = .ok (.ifCond .eq 27, 3) := by decide +kernel
theorem dX3_startSteps_36 : decode cX3_startSteps 36 = .ok (.aload_n 0, 1) := by decide +kernel
theorem dX3_startSteps_37 : decode cX3_startSteps 37 = .ok (.iload_n 3, 1) := by decide +kernel
theorem dX3_startSteps_38 : decode cX3_startSteps 38 = .ok (.invokevirtual 129, 3) := by decide +kernel
theorem dX3_startSteps_41 : decode cX3_startSteps 41 = .ok (.ifCond .eq 19, 3) := by decide +kernel
theorem dX3_startSteps_44 : decode cX3_startSteps 44 = .ok (.aload_n 0, 1) := by decide +kernel
theorem dX3_startSteps_45 : decode cX3_startSteps 45 = .ok (.iload_n 3, 1) := by decide +kernel
theorem dX3_startSteps_46 : decode cX3_startSteps 46 = .ok (.invokevirtual 132, 3) := by decide +kernel
theorem dX3_startSteps_49 : decode cX3_startSteps 49 = .ok (.ifCond .eq 11, 3) := by decide +kernel
theorem dX3_startSteps_52 : decode cX3_startSteps 52 = .ok (.aload_n 0, 1) := by decide +kernel
theorem dX3_startSteps_53 : decode cX3_startSteps 53 = .ok (.getfield 12, 3) := by decide +kernel
theorem dX3_startSteps_56 : decode cX3_startSteps 56 = .ok (.iload_n 3, 1) := by decide +kernel
theorem dX3_startSteps_57 : decode cX3_startSteps 57 = .ok (.invokevirtual 135, 3) := by decide +kernel
theorem dX3_startSteps_60 : decode cX3_startSteps 60 = .ok (.iinc 2 1, 3) := by decide +kernel
theorem dX3_startSteps_63 : decode cX3_startSteps 63 = .ok (.goto (-56), 3) := by decide +kernel
theorem dX3_startSteps_66 : decode cX3_startSteps 66 = .ok (.return_, 1) := by decide +kernel
set_option maxRecDepth 20000 in
theorem ggX3_readySteps_X5_allSteps : GoodIn wsX3_readySteps wsX5_allSteps := goodIn_r _ [7, 8, 32, 33, 34, 35, 36, 37, 38, 39, 40, 41, 42, 43, 44, 45, 46, 47, 48, 49, 50, 51] rfl (by decide +kernel)
set_option maxRecDepth 20000 in
theorem gX3_readySteps_X5_allSteps : GoodIn wsX3_readySteps (wsV RX3 51 RX5 yX5_allSteps wsX5_allSteps) := goodIn_app (goodIn_of _ (by decide +kernel)) ggX3_readySteps_X5_allSteps
set_option maxRecDepth 20000 in
theorem ggX3_readySteps_X11_contains : GoodIn wsX3_readySteps wsX11_contains := goodIn_r _ [11] rfl (by decide +kernel)
set_option maxRecDepth 20000 in
theorem gX3_readySteps_X11_contains_n100 : GoodIn wsX3_readySteps (wsX11_contains) := ggX3_readySteps_X11_contains
theorem dX3_readySteps_0 : decode cX3_readySteps 0 = .ok (.iconst 0, 1) := by decide +kernel
theorem dX3_readySteps_1 : decode cX3_readySteps 1 = .ok (.istore_n 1, 1) := by decide +kernel
theorem dX3_readySteps_2 : decode cX3_readySteps 2 = .ok (.aload_n 0, 1) := by decide +kernel
theorem dX3_readySteps_3 : decode cX3_readySteps 3 = .ok (.getfield 28, 3) := by decide +kernel
theorem dX3_readySteps_6 : decode cX3_readySteps 6 = .ok (.invokevirtual 51, 3) := by decide +kernel
theorem dX3_readySteps_9 : decode cX3_readySteps 9 = .ok (.aload_n 0, 1) := by decide +kernel
theorem dX3_readySteps_10 : decode cX3_readySteps 10 = .ok (.getfield 12, 3) := by decide +kernel
theorem dX3_readySteps_13 : decode cX3_readySteps 13 = .ok (.getfield 82, 3) := by decide +kernel
theorem dX3_readySteps_16 : decode cX3_readySteps 16 = .ok (.aload_n 0, 1) := by decide +kernel
theorem dX3_readySteps_17 : decode cX3_readySteps 17 = .ok (.getfield 12, 3) := by decide +kernel
theorem dX3_readySteps_20 : decode cX3_readySteps 20 = .ok (.getfield 47, 3) := by decide +kernel
theorem dX3_readySteps_23 : decode cX3_readySteps 23 = .ok (.ior, 1) := by decide +kernel
theorem dX3_readySteps_24 : decode cX3_readySteps 24 = .ok (.iconst (-1), 1) := by decide +kernel
theorem dX3_readySteps_25 : decode cX3_readySteps 25 = .ok (.ixor, 1) := by decide +kernel
theorem dX3_readySteps_26 : decode cX3_readySteps 26 = .ok (.iand, 1) := by decide +kernel
theorem dX3_readySteps_27 : decode cX3_readySteps 27 = .ok (.istore_n 2, 1) := by decide +kernel
theorem dX3_readySteps_28 : decode cX3_readySteps 28 = .ok (.iconst 0, 1) := by decide +kernel
theorem dX3_readySteps_29 : decode cX3_readySteps 29 = .ok (.istore_n 3, 1) := by decide +kernel
theorem dX3_readySteps_30 : decode cX3_readySteps 30 = .ok (.iload_n 3, 1) := by decide +kernel
theorem dX3_readySteps_31 : decode cX3_readySteps 31 = .ok (.aload_n 0, 1) := by decide +kernel
theorem dX3_readySteps_32 : decode cX3_readySteps 32 = .ok (.getfield 28, 3) := by decide +kernel
theorem dX3_readySteps_35 : decode cX3_readySteps 35 = .ok (.getfield 91, 3) := by decide +kernel
theorem dX3_readySteps_38 : decode cX3_readySteps 38 = .ok (.getfield 95, 3) := by decide +kernel
theorem dX3_readySteps_41 : decode cX3_readySteps 41 = .ok (.if_icmp .ge 45, 3) := by decide +kernel
theorem dX3_readySteps_44 : decode cX3_readySteps 44 = .ok (.iload_n 2, 1) := by decide +kernel
theorem dX3_readySteps_45 : decode cX3_readySteps 45 = .ok (.iload_n 3, 1) := by decide +kernel
theorem dX3_readySteps_46 : decode cX3_readySteps 46 = .ok (.invokestatic 100, 3) := by decide +kernel
theorem dX3_readySteps_49 : decode cX3_readySteps 49 = .ok (.ifCond .eq 31, 3) := by decide +kernel
theorem dX3_readySteps_52 : decode cX3_readySteps 52 = .ok (.aload_n 0, 1) := by decide +kernel
theorem dX3_readySteps_53 : decode cX3_readySteps 53 = .ok (.getfield 28, 3) := by decide +kernel
theorem dX3_readySteps_56 : decode cX3_readySteps 56 = .ok (.getfield 138, 3) := by decide +kernel
theorem dX3_readySteps_59 : decode cX3_readySteps 59 = .ok (.iload_n 3, 1) := by decide +kernel
theorem dX3_readySteps_60 : decode cX3_readySteps 60 = .ok (.iaload, 1) := by decide +kernel
theorem dX3_readySteps_61 : decode cX3_readySteps 61 = .ok (.aload_n 0, 1) := by decide +kernel
theorem dX3_readySteps_62 : decode cX3_readySteps 62 = .ok (.getfield 12, 3) := by decide +kernel
theorem dX3_readySteps_65 : decode cX3_readySteps 65 = .ok (.getfield 47, 3) := by decide +kernel
theorem dX3_readySteps_68 : decode cX3_readySteps 68 = .ok (.iconst (-1), 1) := by decide +kernel
theorem dX3_readySteps_69 : decode cX3_readySteps 69 = .ok (.ixor, 1) := by decide +kernel
theorem dX3_readySteps_70 : decode cX3_readySteps 70 = .ok (.iand, 1) := by decide +kernel
theorem dX3_readySteps_71 : decode cX3_readySteps 71 = .ok (.ifCond .ne 9, 3) := by decide +kernel
theorem dX3_readySteps_74 : decode cX3_readySteps 74 = .ok (.iload_n 1, 1) := by decide +kernel
theorem dX3_readySteps_75 : decode cX3_readySteps 75 = .ok (.iconst 1, 1) := by decide +kernel
theorem dX3_readySteps_76 : decode cX3_readySteps 76 = .ok (.iload_n 3, 1) := by decide +kernel
theorem dX3_readySteps_77 : decode cX3_readySteps 77 = .ok (.ishl, 1) := by decide +kernel
theorem dX3_readySteps_78 : decode cX3_readySteps 78 = .ok (.ior, 1) := by decide +kernel
theorem dX3_readySteps_79 : decode cX3_readySteps 79 = .ok (.istore_n 1, 1) := by decide +kernel
theorem dX3_readySteps_80 : decode cX3_readySteps 80 = .ok (.iinc 3 1, 3) := by decide +kernel
theorem dX3_readySteps_83 : decode cX3_readySteps 83 = .ok (.goto (-53), 3) := by decide +kernel
theorem dX3_readySteps_86 : decode cX3_readySteps 86 = .ok (.iload_n 1, 1) := by decide +kernel
theorem dX3_readySteps_87 : decode cX3_readySteps 87 = .ok (.ireturn, 1) := by decide +kernel
theorem dX3_isContinued_0 : decode cX3_isContinued 0 = .ok (.aload_n 0, 1) := by decide +kernel
theorem dX3_isContinued_1 : decode cX3_isContinued 1 = .ok (.getfield 28, 3) := by decide +kernel
theorem dX3_isContinued_4 : decode cX3_isContinued 4 = .ok (.getfield 141, 3) := by decide +kernel
theorem dX3_isContinued_7 : decode cX3_isContinued 7 = .ok (.iload_n 1, 1) := by decide +kernel
theorem dX3_isContinued_8 : decode cX3_isContinued 8 = .ok (.iaload, 1) := by decide +kernel
theorem dX3_isContinued_9 : decode cX3_isContinued 9 = .ok (.aload_n 0, 1) := by decide +kernel
theorem dX3_isContinued_10 : decode cX3_isContinued 10 = .ok (.getfield 12, 3) := by decide +kernel
theorem dX3_isContinued_13 : decode cX3_isContinued 13 = .ok (.getfield 82, 3) := by decide +kernel
theorem dX3_isContinued_16 : decode cX3_isContinued 16 = .ok (.aload_n 0, 1) := by decide +kernel
theorem dX3_isContinued_17 : decode cX3_isContinued 17 = .ok (.getfield 12, 3) := by decide +kernel
theorem dX3_isContinued_20 : decode cX3_isContinued 20 = .ok (.getfield 47, 3) := by decide +kernel
theorem dX3_isContinued_23 : decode cX3_isContinued 23 = .ok (.ior, 1) := by decide +kernel
theorem dX3_isContinued_24 : decode cX3_isContinued 24 = .ok (.iand, 1) := by decide +kernel
theorem dX3_isContinued_25 : decode cX3_isContinued 25 = .ok (.ifCond .eq 7, 3) := by decide +kernel
theorem dX3_isContinued_28 : decode cX3_isContinued 28 = .ok (.iconst 1, 1) := by decide +kernel
theorem dX3_isContinued_29 : decode cX3_isContinued 29 = .ok (.goto 4, 3) := by decide +kernel
theorem dX3_isContinued_32 : decode cX3_isContinued 32 = .ok (.iconst 0, 1) := by decide +kernel
theorem dX3_isContinued_33 : decode cX3_isContinued 33 = .ok (.ireturn, 1) := by decide +kernel
set_option maxRecDepth 20000 in
theorem ggX3_isRedoable_X11_contains : GoodIn wsX3_isRedoable wsX11_contains := goodIn_r _ [4] rfl (by decide +kernel)
set_option maxRecDepth 20000 in
theorem gX3_isRedoable_X11_contains_n100 : GoodIn wsX3_isRedoable (wsX11_contains) := ggX3_isRedoable_X11_contains
set_option maxRecDepth 20000 in
theorem ggX3_isRedoable_X3_isContinued : GoodIn wsX3_isRedoable wsX3_isContinued := goodIn_r _ [9, 10, 1, 11, 12, 13, 14, 15, 31, 32, 33, 34, 35, 36, 37, 38, 39, 40, 41, 42, 43, 44, 45, 46, 47, 16, 17, 18, 19, 20, 21, 22, 23, 24, 25, 26, 27, 28, 29, 30] rfl (by decide +kernel)
set_option maxRecDepth 20000 in
theorem gX3_isRedoable_X3_isContinued : GoodIn wsX3_isRedoable (wsV RX3 113 RX3 yX3_isContinued wsX3_isContinued) := goodIn_app (goodIn_of _ (by decide +kernel)) ggX3_isRedoable_X3_isContinued
theorem dX3_isRedoable_0 : decode cX3_isRedoable 0 = .ok (.aload_n 0, 1) := by decide +kernel
theorem dX3_isRedoable_1 : decode cX3_isRedoable 1 = .ok (.getfield 12, 3) := by decide +kernel
theorem dX3_isRedoable_4 : decode cX3_isRedoable 4 = .ok (.getfield 47, 3) := by decide +kernel
theorem dX3_isRedoable_7 : decode cX3_isRedoable 7 = .ok (.iload_n 1, 1) := by decide +kernel
theorem dX3_isRedoable_8 : decode cX3_isRedoable 8 = .ok (.invokestatic 100, 3) := by decide +kernel
theorem dX3_isRedoable_11 : decode cX3_isRedoable 11 = .ok (.ifCond .eq 25, 3) := by decide +kernel
theorem dX3_isRedoable_14 : decode cX3_isRedoable 14 = .ok (.aload_n 0, 1) := by decide +kernel
theorem dX3_isRedoable_15 : decode cX3_isRedoable 15 = .ok (.iload_n 1, 1) := by decide +kernel
theorem dX3_isRedoable_16 : decode cX3_isRedoable 16 = .ok (.invokevirtual 113, 3) := by decide +kernel
theorem dX3_isRedoable_19 : decode cX3_isRedoable 19 = .ok (.ifCond .ne 17, 3) := by decide +kernel
theorem dX3_isRedoable_22 : decode cX3_isRedoable 22 = .ok (.aload_n 0, 1) := by decide +kernel
theorem dX3_isRedoable_23 : decode cX3_isRedoable 23 = .ok (.getfield 12, 3) := by decide +kernel
theorem dX3_isRedoable_26 : decode cX3_isRedoable 26 = .ok (.getfield 59, 3) := by decide +kernel
theorem dX3_isRedoable_29 : decode cX3_isRedoable 29 = .ok (.ifCond .ne 7, 3) := by decide +kernel
theorem dX3_isRedoable_32 : decode cX3_isRedoable 32 = .ok (.iconst 1, 1) := by decide +kernel
theorem dX3_isRedoable_33 : decode cX3_isRedoable 33 = .ok (.goto 4, 3) := by decide +kernel
theorem dX3_isRedoable_36 : decode cX3_isRedoable 36 = .ok (.iconst 0, 1) := by decide +kernel
theorem dX3_isRedoable_37 : decode cX3_isRedoable 37 = .ok (.ireturn, 1) := by decide +kernel
set_option maxRecDepth 20000 in
theorem ggX3_hasFreeCook_X11_contains : GoodIn wsX3_hasFreeCook wsX11_contains := goodIn_r _ [5] rfl (by decide +kernel)
set_option maxRecDepth 20000 in
theorem gX3_hasFreeCook_X11_contains_n100 : GoodIn wsX3_hasFreeCook (wsX11_contains) := ggX3_hasFreeCook_X11_contains
set_option maxRecDepth 20000 in
theorem ggX3_hasFreeCook_J6_bitCount_0f7a4 : GoodIn wsX3_hasFreeCook wsJ6_bitCount_0f7a4 := goodIn_r _ [9, 10, 11, 12] rfl (by decide +kernel)
set_option maxRecDepth 20000 in
theorem gX3_hasFreeCook_J6_bitCount_0f7a4 : GoodIn wsX3_hasFreeCook (va_wsS RX3 76 yJ6_bitCount_0f7a4 wsJ6_bitCount_0f7a4) := goodIn_app (goodIn_of _ (by decide +kernel)) ggX3_hasFreeCook_J6_bitCount_0f7a4
theorem dX3_hasFreeCook_0 : decode cX3_hasFreeCook 0 = .ok (.aload_n 0, 1) := by decide +kernel
theorem dX3_hasFreeCook_1 : decode cX3_hasFreeCook 1 = .ok (.getfield 28, 3) := by decide +kernel
theorem dX3_hasFreeCook_4 : decode cX3_hasFreeCook 4 = .ok (.getfield 88, 3) := by decide +kernel
theorem dX3_hasFreeCook_7 : decode cX3_hasFreeCook 7 = .ok (.iload_n 1, 1) := by decide +kernel
theorem dX3_hasFreeCook_8 : decode cX3_hasFreeCook 8 = .ok (.invokestatic 100, 3) := by decide +kernel
theorem dX3_hasFreeCook_11 : decode cX3_hasFreeCook 11 = .ok (.ifCond .ne 33, 3) := by decide +kernel
theorem dX3_hasFreeCook_14 : decode cX3_hasFreeCook 14 = .ok (.aload_n 0, 1) := by decide +kernel
theorem dX3_hasFreeCook_15 : decode cX3_hasFreeCook 15 = .ok (.getfield 12, 3) := by decide +kernel
theorem dX3_hasFreeCook_18 : decode cX3_hasFreeCook 18 = .ok (.getfield 82, 3) := by decide +kernel
theorem dX3_hasFreeCook_21 : decode cX3_hasFreeCook 21 = .ok (.aload_n 0, 1) := by decide +kernel
theorem dX3_hasFreeCook_22 : decode cX3_hasFreeCook 22 = .ok (.getfield 28, 3) := by decide +kernel
theorem dX3_hasFreeCook_25 : decode cX3_hasFreeCook 25 = .ok (.getfield 88, 3) := by decide +kernel
theorem dX3_hasFreeCook_28 : decode cX3_hasFreeCook 28 = .ok (.iconst (-1), 1) := by decide +kernel
theorem dX3_hasFreeCook_29 : decode cX3_hasFreeCook 29 = .ok (.ixor, 1) := by decide +kernel
theorem dX3_hasFreeCook_30 : decode cX3_hasFreeCook 30 = .ok (.iand, 1) := by decide +kernel
theorem dX3_hasFreeCook_31 : decode cX3_hasFreeCook 31 = .ok (.invokestatic 76, 3) := by decide +kernel
theorem dX3_hasFreeCook_34 : decode cX3_hasFreeCook 34 = .ok (.aload_n 0, 1) := by decide +kernel
theorem dX3_hasFreeCook_35 : decode cX3_hasFreeCook 35 = .ok (.getfield 12, 3) := by decide +kernel
theorem dX3_hasFreeCook_38 : decode cX3_hasFreeCook 38 = .ok (.getfield 144, 3) := by decide +kernel
theorem dX3_hasFreeCook_41 : decode cX3_hasFreeCook 41 = .ok (.if_icmp .ge 7, 3) := by decide +kernel
theorem dX3_hasFreeCook_44 : decode cX3_hasFreeCook 44 = .ok (.iconst 1, 1) := by decide +kernel
theorem dX3_hasFreeCook_45 : decode cX3_hasFreeCook 45 = .ok (.goto 4, 3) := by decide +kernel
theorem dX3_hasFreeCook_48 : decode cX3_hasFreeCook 48 = .ok (.iconst 0, 1) := by decide +kernel
theorem dX3_hasFreeCook_49 : decode cX3_hasFreeCook 49 = .ok (.ireturn, 1) := by decide +kernel
set_option maxRecDepth 20000 in
theorem ggX3_hasFreePan_X3_occupants : GoodIn wsX3_hasFreePan wsX3_occupants := goodIn_r _ [6, 1, 7, 15, 16, 17, 18, 19, 20, 21, 22, 23, 24, 25, 26, 27, 28, 29, 30, 31, 32, 33, 34, 35, 36, 37, 38, 39, 40, 41, 42, 43, 44, 45, 46, 47, 48, 49, 50, 51, 52, 53, 54] rfl (by decide +kernel)
set_option maxRecDepth 20000 in
theorem gX3_hasFreePan_X3_occupants : GoodIn wsX3_hasFreePan (wsV RX3 150 RX3 yX3_occupants wsX3_occupants) := goodIn_app (goodIn_of _ (by decide +kernel)) ggX3_hasFreePan_X3_occupants
set_option maxRecDepth 20000 in
theorem ggX3_hasFreePan_J6_bitCount_0f7a4 : GoodIn wsX3_hasFreePan wsJ6_bitCount_0f7a4 := goodIn_r _ [11, 12, 13, 14] rfl (by decide +kernel)
set_option maxRecDepth 20000 in
theorem gX3_hasFreePan_J6_bitCount_0f7a4 : GoodIn wsX3_hasFreePan (va_wsS RX3 76 yJ6_bitCount_0f7a4 wsJ6_bitCount_0f7a4) := goodIn_app (goodIn_of _ (by decide +kernel)) ggX3_hasFreePan_J6_bitCount_0f7a4
theorem dX3_hasFreePan_0 : decode cX3_hasFreePan 0 = .ok (.aload_n 0, 1) := by decide +kernel
theorem dX3_hasFreePan_1 : decode cX3_hasFreePan 1 = .ok (.getfield 28, 3) := by decide +kernel
theorem dX3_hasFreePan_4 : decode cX3_hasFreePan 4 = .ok (.getfield 147, 3) := by decide +kernel
theorem dX3_hasFreePan_7 : decode cX3_hasFreePan 7 = .ok (.iload_n 1, 1) := by decide +kernel
theorem dX3_hasFreePan_8 : decode cX3_hasFreePan 8 = .ok (.iaload, 1) := by decide +kernel
theorem dX3_hasFreePan_9 : decode cX3_hasFreePan 9 = .ok (.istore_n 2, 1) := by decide +kernel
theorem dX3_hasFreePan_10 : decode cX3_hasFreePan 10 = .ok (.iload_n 2, 1) := by decide +kernel
theorem dX3_hasFreePan_11 : decode cX3_hasFreePan 11 = .ok (.iconst (-1), 1) := by decide +kernel
theorem dX3_hasFreePan_12 : decode cX3_hasFreePan 12 = .ok (.if_icmp .eq 23, 3) := by decide +kernel
theorem dX3_hasFreePan_15 : decode cX3_hasFreePan 15 = .ok (.aload_n 0, 1) := by decide +kernel
theorem dX3_hasFreePan_16 : decode cX3_hasFreePan 16 = .ok (.iload_n 2, 1) := by decide +kernel
theorem dX3_hasFreePan_17 : decode cX3_hasFreePan 17 = .ok (.invokevirtual 150, 3) := by decide +kernel
theorem dX3_hasFreePan_20 : decode cX3_hasFreePan 20 = .ok (.invokestatic 76, 3) := by decide +kernel
theorem dX3_hasFreePan_23 : decode cX3_hasFreePan 23 = .ok (.aload_n 0, 1) := by decide +kernel
theorem dX3_hasFreePan_24 : decode cX3_hasFreePan 24 = .ok (.getfield 28, 3) := by decide +kernel
theorem dX3_hasFreePan_27 : decode cX3_hasFreePan 27 = .ok (.getfield 153, 3) := by decide +kernel
theorem dX3_hasFreePan_30 : decode cX3_hasFreePan 30 = .ok (.iload_n 2, 1) := by decide +kernel
theorem dX3_hasFreePan_31 : decode cX3_hasFreePan 31 = .ok (.iaload, 1) := by decide +kernel
theorem dX3_hasFreePan_32 : decode cX3_hasFreePan 32 = .ok (.if_icmp .ge 7, 3) := by decide +kernel
theorem dX3_hasFreePan_35 : decode cX3_hasFreePan 35 = .ok (.iconst 1, 1) := by decide +kernel
theorem dX3_hasFreePan_36 : decode cX3_hasFreePan 36 = .ok (.goto 4, 3) := by decide +kernel
theorem dX3_hasFreePan_39 : decode cX3_hasFreePan 39 = .ok (.iconst 0, 1) := by decide +kernel
theorem dX3_hasFreePan_40 : decode cX3_hasFreePan 40 = .ok (.ireturn, 1) := by decide +kernel
theorem dX3_occupants_0 : decode cX3_occupants 0 = .ok (.aload_n 0, 1) := by decide +kernel
theorem dX3_occupants_1 : decode cX3_occupants 1 = .ok (.getfield 28, 3) := by decide +kernel
theorem dX3_occupants_4 : decode cX3_occupants 4 = .ok (.getfield 156, 3) := by decide +kernel
theorem dX3_occupants_7 : decode cX3_occupants 7 = .ok (.iload_n 1, 1) := by decide +kernel
theorem dX3_occupants_8 : decode cX3_occupants 8 = .ok (.iaload, 1) := by decide +kernel
theorem dX3_occupants_9 : decode cX3_occupants 9 = .ok (.istore_n 2, 1) := by decide +kernel
theorem dX3_occupants_10 : decode cX3_occupants 10 = .ok (.iload_n 2, 1) := by decide +kernel
theorem dX3_occupants_11 : decode cX3_occupants 11 = .ok (.aload_n 0, 1) := by decide +kernel
theorem dX3_occupants_12 : decode cX3_occupants 12 = .ok (.getfield 12, 3) := by decide +kernel
theorem dX3_occupants_15 : decode cX3_occupants 15 = .ok (.getfield 82, 3) := by decide +kernel
theorem dX3_occupants_18 : decode cX3_occupants 18 = .ok (.iand, 1) := by decide +kernel
theorem dX3_occupants_19 : decode cX3_occupants 19 = .ok (.istore_n 3, 1) := by decide +kernel
theorem dX3_occupants_20 : decode cX3_occupants 20 = .ok (.aload_n 0, 1) := by decide +kernel
theorem dX3_occupants_21 : decode cX3_occupants 21 = .ok (.getfield 12, 3) := by decide +kernel
theorem dX3_occupants_24 : decode cX3_occupants 24 = .ok (.getfield 82, 3) := by decide +kernel
theorem dX3_occupants_27 : decode cX3_occupants 27 = .ok (.aload_n 0, 1) := by decide +kernel
theorem dX3_occupants_28 : decode cX3_occupants 28 = .ok (.getfield 12, 3) := by decide +kernel
theorem dX3_occupants_31 : decode cX3_occupants 31 = .ok (.getfield 47, 3) := by decide +kernel
theorem dX3_occupants_34 : decode cX3_occupants 34 = .ok (.ior, 1) := by decide +kernel
theorem dX3_occupants_35 : decode cX3_occupants 35 = .ok (.istore 4, 2) := by decide +kernel
theorem dX3_occupants_37 : decode cX3_occupants 37 = .ok (.iconst 0, 1) := by decide +kernel
theorem dX3_occupants_38 : decode cX3_occupants 38 = .ok (.istore 5, 2) := by decide +kernel
theorem dX3_occupants_40 : decode cX3_occupants 40 = .ok (.iload 5, 2) := by decide +kernel
theorem dX3_occupants_42 : decode cX3_occupants 42 = .ok (.aload_n 0, 1) := by decide +kernel
theorem dX3_occupants_43 : decode cX3_occupants 43 = .ok (.getfield 28, 3) := by decide +kernel
theorem dX3_occupants_46 : decode cX3_occupants 46 = .ok (.getfield 91, 3) := by decide +kernel
theorem dX3_occupants_49 : decode cX3_occupants 49 = .ok (.getfield 95, 3) := by decide +kernel
theorem dX3_occupants_52 : decode cX3_occupants 52 = .ok (.if_icmp .ge 53, 3) := by decide +kernel
theorem dX3_occupants_55 : decode cX3_occupants 55 = .ok (.iconst 1, 1) := by decide +kernel
theorem dX3_occupants_56 : decode cX3_occupants 56 = .ok (.iload 5, 2) := by decide +kernel
theorem dX3_occupants_58 : decode cX3_occupants 58 = .ok (.ishl, 1) := by decide +kernel
theorem dX3_occupants_59 : decode cX3_occupants 59 = .ok (.istore 6, 2) := by decide +kernel
theorem dX3_occupants_61 : decode cX3_occupants 61 = .ok (.iload_n 2, 1) := by decide +kernel
theorem dX3_occupants_62 : decode cX3_occupants 62 = .ok (.aload_n 0, 1) := by decide +kernel
theorem dX3_occupants_63 : decode cX3_occupants 63 = .ok (.getfield 12, 3) := by decide +kernel
theorem dX3_occupants_66 : decode cX3_occupants 66 = .ok (.getfield 47, 3) := by decide +kernel
theorem dX3_occupants_69 : decode cX3_occupants 69 = .ok (.iand, 1) := by decide +kernel
theorem dX3_occupants_70 : decode cX3_occupants 70 = .ok (.iload 6, 2) := by decide +kernel
theorem dX3_occupants_72 : decode cX3_occupants 72 = .ok (.iand, 1) := by decide +kernel
theorem dX3_occupants_73 : decode cX3_occupants 73 = .ok (.ifCond .eq 26, 3) := by decide +kernel
theorem dX3_occupants_76 : decode cX3_occupants 76 = .ok (.aload_n 0, 1) := by decide +kernel
theorem dX3_occupants_77 : decode cX3_occupants 77 = .ok (.getfield 28, 3) := by decide +kernel
theorem dX3_occupants_80 : decode cX3_occupants 80 = .ok (.getfield 141, 3) := by decide +kernel
theorem dX3_occupants_83 : decode cX3_occupants 83 = .ok (.iload 5, 2) := by decide +kernel
theorem dX3_occupants_85 : decode cX3_occupants 85 = .ok (.iaload, 1) := by decide +kernel
theorem dX3_occupants_86 : decode cX3_occupants 86 = .ok (.iload 4, 2) := by decide +kernel
theorem dX3_occupants_88 : decode cX3_occupants 88 = .ok (.iconst (-1), 1) := by decide +kernel
theorem dX3_occupants_89 : decode cX3_occupants 89 = .ok (.ixor, 1) := by decide +kernel
theorem dX3_occupants_90 : decode cX3_occupants 90 = .ok (.iand, 1) := by decide +kernel
theorem dX3_occupants_91 : decode cX3_occupants 91 = .ok (.ifCond .eq 8, 3) := by decide +kernel
theorem dX3_occupants_94 : decode cX3_occupants 94 = .ok (.iload_n 3, 1) := by decide +kernel
theorem dX3_occupants_95 : decode cX3_occupants 95 = .ok (.iload 6, 2) := by decide +kernel
theorem dX3_occupants_97 : decode cX3_occupants 97 = .ok (.ior, 1) := by decide +kernel
theorem dX3_occupants_98 : decode cX3_occupants 98 = .ok (.istore_n 3, 1) := by decide +kernel
theorem dX3_occupants_99 : decode cX3_occupants 99 = .ok (.iinc 5 1, 3) := by decide +kernel
theorem dX3_occupants_102 : decode cX3_occupants 102 = .ok (.goto (-62), 3) := by decide +kernel
theorem dX3_occupants_105 : decode cX3_occupants 105 = .ok (.iload_n 3, 1) := by decide +kernel
theorem dX3_occupants_106 : decode cX3_occupants 106 = .ok (.ireturn, 1) := by decide +kernel
set_option maxRecDepth 20000 in
theorem ggX3_rank_X3_longestOf : GoodIn wsX3_rank wsX3_longestOf := goodIn_r _ [9, 1, 2, 10, 11, 12, 13, 14, 15, 16, 17, 18, 19, 20, 21, 22, 23, 24, 25, 26, 27, 28, 29, 30, 31, 32, 33, 34, 35, 36, 37] rfl (by decide +kernel)
set_option maxRecDepth 20000 in
theorem gX3_rank_X3_longestOf : GoodIn wsX3_rank (wsV RX3 159 RX3 yX3_longestOf wsX3_longestOf) := goodIn_app (goodIn_of _ (by decide +kernel)) ggX3_rank_X3_longestOf
theorem dX3_rank_0 : decode cX3_rank 0 = .ok (.aload_n 0, 1) := by decide +kernel
theorem dX3_rank_1 : decode cX3_rank 1 = .ok (.getfield 28, 3) := by decide +kernel
theorem dX3_rank_4 : decode cX3_rank 4 = .ok (.getfield 91, 3) := by decide +kernel
theorem dX3_rank_7 : decode cX3_rank 7 = .ok (.getfield 95, 3) := by decide +kernel
theorem dX3_rank_10 : decode cX3_rank 10 = .ok (.iconst 1, 1) := by decide +kernel
theorem dX3_rank_11 : decode cX3_rank 11 = .ok (.isub, 1) := by decide +kernel
theorem dX3_rank_12 : decode cX3_rank 12 = .ok (.istore_n 1, 1) := by decide +kernel
theorem dX3_rank_13 : decode cX3_rank 13 = .ok (.iload_n 1, 1) := by decide +kernel
theorem dX3_rank_14 : decode cX3_rank 14 = .ok (.ifCond .lt 54, 3) := by decide +kernel
theorem dX3_rank_17 : decode cX3_rank 17 = .ok (.aload_n 0, 1) := by decide +kernel
theorem dX3_rank_18 : decode cX3_rank 18 = .ok (.aload_n 0, 1) := by decide +kernel
theorem dX3_rank_19 : decode cX3_rank 19 = .ok (.getfield 28, 3) := by decide +kernel
theorem dX3_rank_22 : decode cX3_rank 22 = .ok (.getfield 141, 3) := by decide +kernel
theorem dX3_rank_25 : decode cX3_rank 25 = .ok (.iload_n 1, 1) := by decide +kernel
theorem dX3_rank_26 : decode cX3_rank 26 = .ok (.iaload, 1) := by decide +kernel
theorem dX3_rank_27 : decode cX3_rank 27 = .ok (.invokevirtual 159, 3) := by decide +kernel
theorem dX3_rank_30 : decode cX3_rank 30 = .ok (.istore_n 2, 1) := by decide +kernel
theorem dX3_rank_31 : decode cX3_rank 31 = .ok (.aload_n 0, 1) := by decide +kernel
theorem dX3_rank_32 : decode cX3_rank 32 = .ok (.getfield 18, 3) := by decide +kernel
theorem dX3_rank_35 : decode cX3_rank 35 = .ok (.iload_n 1, 1) := by decide +kernel
theorem dX3_rank_36 : decode cX3_rank 36 = .ok (.aload_n 0, 1) := by decide +kernel
theorem dX3_rank_37 : decode cX3_rank 37 = .ok (.getfield 12, 3) := by decide +kernel
theorem dX3_rank_40 : decode cX3_rank 40 = .ok (.getfield 162, 3) := by decide +kernel
theorem dX3_rank_43 : decode cX3_rank 43 = .ok (.iload_n 1, 1) := by decide +kernel
theorem dX3_rank_44 : decode cX3_rank 44 = .ok (.iaload, 1) := by decide +kernel
theorem dX3_rank_45 : decode cX3_rank 45 = .ok (.iload_n 2, 1) := by decide +kernel
theorem dX3_rank_46 : decode cX3_rank 46 = .ok (.iconst (-1), 1) := by decide +kernel
theorem dX3_rank_47 : decode cX3_rank 47 = .ok (.if_icmp .ne 7, 3) := by decide +kernel
theorem dX3_rank_50 : decode cX3_rank 50 = .ok (.iconst 0, 1) := by decide +kernel
theorem dX3_rank_51 : decode cX3_rank 51 = .ok (.goto 9, 3) := by decide +kernel
theorem dX3_rank_54 : decode cX3_rank 54 = .ok (.aload_n 0, 1) := by decide +kernel
theorem dX3_rank_55 : decode cX3_rank 55 = .ok (.getfield 18, 3) := by decide +kernel
theorem dX3_rank_58 : decode cX3_rank 58 = .ok (.iload_n 2, 1) := by decide +kernel
theorem dX3_rank_59 : decode cX3_rank 59 = .ok (.iaload, 1) := by decide +kernel
theorem dX3_rank_60 : decode cX3_rank 60 = .ok (.iadd, 1) := by decide +kernel
theorem dX3_rank_61 : decode cX3_rank 61 = .ok (.iastore, 1) := by decide +kernel
theorem dX3_rank_62 : decode cX3_rank 62 = .ok (.iinc 1 (-1), 3) := by decide +kernel
theorem dX3_rank_65 : decode cX3_rank 65 = .ok (.goto (-52), 3) := by decide +kernel
theorem dX3_rank_68 : decode cX3_rank 68 = .ok (.iconst 0, 1) := by decide +kernel
theorem dX3_rank_69 : decode cX3_rank 69 = .ok (.istore_n 1, 1) := by decide +kernel
theorem dX3_rank_70 : decode cX3_rank 70 = .ok (.iload_n 1, 1) := by decide +kernel
theorem dX3_rank_71 : decode cX3_rank 71 = .ok (.aload_n 0, 1) := by decide +kernel
theorem dX3_rank_72 : decode cX3_rank 72 = .ok (.getfield 28, 3) := by decide +kernel
theorem dX3_rank_75 : decode cX3_rank 75 = .ok (.getfield 91, 3) := by decide +kernel
theorem dX3_rank_78 : decode cX3_rank 78 = .ok (.getfield 95, 3) := by decide +kernel
theorem dX3_rank_81 : decode cX3_rank 81 = .ok (.if_icmp .ge 64, 3) := by decide +kernel
theorem dX3_rank_84 : decode cX3_rank 84 = .ok (.iload_n 1, 1) := by decide +kernel
theorem dX3_rank_85 : decode cX3_rank 85 = .ok (.istore_n 2, 1) := by decide +kernel
theorem dX3_rank_86 : decode cX3_rank 86 = .ok (.iload_n 2, 1) := by decide +kernel
theorem dX3_rank_87 : decode cX3_rank 87 = .ok (.ifCond .le 45, 3) := by decide +kernel
theorem dX3_rank_90 : decode cX3_rank 90 = .ok (.aload_n 0, 1) := by decide +kernel
theorem dX3_rank_91 : decode cX3_rank 91 = .ok (.getfield 18, 3) := by decide +kernel
theorem dX3_rank_94 : decode cX3_rank 94 = .ok (.aload_n 0, 1) := by decide +kernel
theorem dX3_rank_95 : decode cX3_rank 95 = .ok (.getfield 22, 3) := by decide +kernel
theorem dX3_rank_98 : decode cX3_rank 98 = .ok (.iload_n 2, 1) := by decide +kernel
theorem dX3_rank_99 : decode cX3_rank 99 = .ok (.iconst 1, 1) := by decide +kernel
theorem dX3_rank_100 : decode cX3_rank 100 = .ok (.isub, 1) := by decide +kernel
theorem dX3_rank_101 : decode cX3_rank 101 = .ok (.iaload, 1) := by decide +kernel
theorem dX3_rank_102 : decode cX3_rank 102 = .ok (.iaload, 1) := by decide +kernel
theorem dX3_rank_103 : decode cX3_rank 103 = .ok (.aload_n 0, 1) := by decide +kernel
theorem dX3_rank_104 : decode cX3_rank 104 = .ok (.getfield 18, 3) := by decide +kernel
theorem dX3_rank_107 : decode cX3_rank 107 = .ok (.iload_n 1, 1) := by decide +kernel
theorem dX3_rank_108 : decode cX3_rank 108 = .ok (.iaload, 1) := by decide +kernel
theorem dX3_rank_109 : decode cX3_rank 109 = .ok (.if_icmp .ge 23, 3) := by decide +kernel
theorem dX3_rank_112 : decode cX3_rank 112 = .ok (.aload_n 0, 1) := by decide +kernel
theorem dX3_rank_113 : decode cX3_rank 113 = .ok (.getfield 22, 3) := by decide +kernel
theorem dX3_rank_116 : decode cX3_rank 116 = .ok (.iload_n 2, 1) := by decide +kernel
theorem dX3_rank_117 : decode cX3_rank 117 = .ok (.aload_n 0, 1) := by decide +kernel
theorem dX3_rank_118 : decode cX3_rank 118 = .ok (.getfield 22, 3) := by decide +kernel
theorem dX3_rank_121 : decode cX3_rank 121 = .ok (.iload_n 2, 1) := by decide +kernel
theorem dX3_rank_122 : decode cX3_rank 122 = .ok (.iconst 1, 1) := by decide +kernel
theorem dX3_rank_123 : decode cX3_rank 123 = .ok (.isub, 1) := by decide +kernel
theorem dX3_rank_124 : decode cX3_rank 124 = .ok (.iaload, 1) := by decide +kernel
theorem dX3_rank_125 : decode cX3_rank 125 = .ok (.iastore, 1) := by decide +kernel
theorem dX3_rank_126 : decode cX3_rank 126 = .ok (.iinc 2 (-1), 3) := by decide +kernel
theorem dX3_rank_129 : decode cX3_rank 129 = .ok (.goto (-43), 3) := by decide +kernel
theorem dX3_rank_132 : decode cX3_rank 132 = .ok (.aload_n 0, 1) := by decide +kernel
theorem dX3_rank_133 : decode cX3_rank 133 = .ok (.getfield 22, 3) := by decide +kernel
theorem dX3_rank_136 : decode cX3_rank 136 = .ok (.iload_n 2, 1) := by decide +kernel
theorem dX3_rank_137 : decode cX3_rank 137 = .ok (.iload_n 1, 1) := by decide +kernel
theorem dX3_rank_138 : decode cX3_rank 138 = .ok (.iastore, 1) := by decide +kernel
theorem dX3_rank_139 : decode cX3_rank 139 = .ok (.iinc 1 1, 3) := by decide +kernel
theorem dX3_rank_142 : decode cX3_rank 142 = .ok (.goto (-72), 3) := by decide +kernel
theorem dX3_rank_145 : decode cX3_rank 145 = .ok (.return_, 1) := by decide +kernel
set_option maxRecDepth 20000 in
theorem ggX3_longestOf_X11_contains : GoodIn wsX3_longestOf wsX11_contains := goodIn_r _ [5] rfl (by decide +kernel)
set_option maxRecDepth 20000 in
theorem gX3_longestOf_X11_contains_n100 : GoodIn wsX3_longestOf (wsX11_contains) := ggX3_longestOf_X11_contains
theorem dX3_longestOf_0 : decode cX3_longestOf 0 = .ok (.iconst (-1), 1) := by decide +kernel
theorem dX3_longestOf_1 : decode cX3_longestOf 1 = .ok (.istore_n 2, 1) := by decide +kernel
theorem dX3_longestOf_2 : decode cX3_longestOf 2 = .ok (.iconst 0, 1) := by decide +kernel
theorem dX3_longestOf_3 : decode cX3_longestOf 3 = .ok (.istore_n 3, 1) := by decide +kernel
theorem dX3_longestOf_4 : decode cX3_longestOf 4 = .ok (.iload_n 3, 1) := by decide +kernel
theorem dX3_longestOf_5 : decode cX3_longestOf 5 = .ok (.aload_n 0, 1) := by decide +kernel
theorem dX3_longestOf_6 : decode cX3_longestOf 6 = .ok (.getfield 28, 3) := by decide +kernel
theorem dX3_longestOf_9 : decode cX3_longestOf 9 = .ok (.getfield 91, 3) := by decide +kernel
theorem dX3_longestOf_12 : decode cX3_longestOf 12 = .ok (.getfield 95, 3) := by decide +kernel
theorem dX3_longestOf_15 : decode cX3_longestOf 15 = .ok (.if_icmp .ge 39, 3) := by decide +kernel
theorem dX3_longestOf_18 : decode cX3_longestOf 18 = .ok (.iload_n 1, 1) := by decide +kernel
theorem dX3_longestOf_19 : decode cX3_longestOf 19 = .ok (.iload_n 3, 1) := by decide +kernel
theorem dX3_longestOf_20 : decode cX3_longestOf 20 = .ok (.invokestatic 100, 3) := by decide +kernel
theorem dX3_longestOf_23 : decode cX3_longestOf 23 = .ok (.ifCond .eq 25, 3) := by decide +kernel
theorem dX3_longestOf_26 : decode cX3_longestOf 26 = .ok (.iload_n 2, 1) := by decide +kernel
theorem dX3_longestOf_27 : decode cX3_longestOf 27 = .ok (.iconst (-1), 1) := by decide +kernel
theorem dX3_longestOf_28 : decode cX3_longestOf 28 = .ok (.if_icmp .eq 18, 3) := by decide +kernel
theorem dX3_longestOf_31 : decode cX3_longestOf 31 = .ok (.aload_n 0, 1) := by decide +kernel
theorem dX3_longestOf_32 : decode cX3_longestOf 32 = .ok (.getfield 18, 3) := by decide +kernel
theorem dX3_longestOf_35 : decode cX3_longestOf 35 = .ok (.iload_n 3, 1) := by decide +kernel
theorem dX3_longestOf_36 : decode cX3_longestOf 36 = .ok (.iaload, 1) := by decide +kernel
theorem dX3_longestOf_37 : decode cX3_longestOf 37 = .ok (.aload_n 0, 1) := by decide +kernel
theorem dX3_longestOf_38 : decode cX3_longestOf 38 = .ok (.getfield 18, 3) := by decide +kernel
theorem dX3_longestOf_41 : decode cX3_longestOf 41 = .ok (.iload_n 2, 1) := by decide +kernel
theorem dX3_longestOf_42 : decode cX3_longestOf 42 = .ok (.iaload, 1) := by decide +kernel
theorem dX3_longestOf_43 : decode cX3_longestOf 43 = .ok (.if_icmp .le 5, 3) := by decide +kernel
theorem dX3_longestOf_46 : decode cX3_longestOf 46 = .ok (.iload_n 3, 1) := by decide +kernel
theorem dX3_longestOf_47 : decode cX3_longestOf 47 = .ok (.istore_n 2, 1) := by decide +kernel
theorem dX3_longestOf_48 : decode cX3_longestOf 48 = .ok (.iinc 3 1, 3) := by decide +kernel
theorem dX3_longestOf_51 : decode cX3_longestOf 51 = .ok (.goto (-47), 3) := by decide +kernel
theorem dX3_longestOf_54 : decode cX3_longestOf 54 = .ok (.iload_n 2, 1) := by decide +kernel
theorem dX3_longestOf_55 : decode cX3_longestOf 55 = .ok (.ireturn, 1) := by decide +kernel
set_option maxRecDepth 20000 in
theorem ggX3_dishTaste_X11_contains : GoodIn wsX3_dishTaste wsX11_contains := goodIn_r _ [5] rfl (by decide +kernel)
set_option maxRecDepth 20000 in
theorem gX3_dishTaste_X11_contains_n100 : GoodIn wsX3_dishTaste (wsX11_contains) := ggX3_dishTaste_X11_contains
theorem dX3_dishTaste_0 : decode cX3_dishTaste 0 = .ok (.aload_n 0, 1) := by decide +kernel
theorem dX3_dishTaste_1 : decode cX3_dishTaste 1 = .ok (.getfield 12, 3) := by decide +kernel
theorem dX3_dishTaste_4 : decode cX3_dishTaste 4 = .ok (.getfield 191, 3) := by decide +kernel
theorem dX3_dishTaste_7 : decode cX3_dishTaste 7 = .ok (.istore_n 1, 1) := by decide +kernel
theorem dX3_dishTaste_8 : decode cX3_dishTaste 8 = .ok (.iconst 0, 1) := by decide +kernel
theorem dX3_dishTaste_9 : decode cX3_dishTaste 9 = .ok (.istore_n 2, 1) := by decide +kernel
theorem dX3_dishTaste_10 : decode cX3_dishTaste 10 = .ok (.iload_n 2, 1) := by decide +kernel
theorem dX3_dishTaste_11 : decode cX3_dishTaste 11 = .ok (.aload_n 0, 1) := by decide +kernel
theorem dX3_dishTaste_12 : decode cX3_dishTaste 12 = .ok (.getfield 28, 3) := by decide +kernel
theorem dX3_dishTaste_15 : decode cX3_dishTaste 15 = .ok (.getfield 91, 3) := by decide +kernel
theorem dX3_dishTaste_18 : decode cX3_dishTaste 18 = .ok (.getfield 95, 3) := by decide +kernel
theorem dX3_dishTaste_21 : decode cX3_dishTaste 21 = .ok (.if_icmp .ge 35, 3) := by decide +kernel
theorem dX3_dishTaste_24 : decode cX3_dishTaste 24 = .ok (.aload_n 0, 1) := by decide +kernel
theorem dX3_dishTaste_25 : decode cX3_dishTaste 25 = .ok (.getfield 12, 3) := by decide +kernel
theorem dX3_dishTaste_28 : decode cX3_dishTaste 28 = .ok (.getfield 47, 3) := by decide +kernel
theorem dX3_dishTaste_31 : decode cX3_dishTaste 31 = .ok (.iload_n 2, 1) := by decide +kernel
theorem dX3_dishTaste_32 : decode cX3_dishTaste 32 = .ok (.invokestatic 100, 3) := by decide +kernel
theorem dX3_dishTaste_35 : decode cX3_dishTaste 35 = .ok (.ifCond .eq 15, 3) := by decide +kernel
theorem dX3_dishTaste_38 : decode cX3_dishTaste 38 = .ok (.iload_n 1, 1) := by decide +kernel
theorem dX3_dishTaste_39 : decode cX3_dishTaste 39 = .ok (.aload_n 0, 1) := by decide +kernel
theorem dX3_dishTaste_40 : decode cX3_dishTaste 40 = .ok (.getfield 28, 3) := by decide +kernel
theorem dX3_dishTaste_43 : decode cX3_dishTaste 43 = .ok (.getfield 194, 3) := by decide +kernel
theorem dX3_dishTaste_46 : decode cX3_dishTaste 46 = .ok (.iload_n 2, 1) := by decide +kernel
theorem dX3_dishTaste_47 : decode cX3_dishTaste 47 = .ok (.iaload, 1) := by decide +kernel
theorem dX3_dishTaste_48 : decode cX3_dishTaste 48 = .ok (.iadd, 1) := by decide +kernel
theorem dX3_dishTaste_49 : decode cX3_dishTaste 49 = .ok (.istore_n 1, 1) := by decide +kernel
theorem dX3_dishTaste_50 : decode cX3_dishTaste 50 = .ok (.iinc 2 1, 3) := by decide +kernel
theorem dX3_dishTaste_53 : decode cX3_dishTaste 53 = .ok (.goto (-43), 3) := by decide +kernel
theorem dX3_dishTaste_56 : decode cX3_dishTaste 56 = .ok (.iload_n 1, 1) := by decide +kernel
theorem dX3_dishTaste_57 : decode cX3_dishTaste 57 = .ok (.ireturn, 1) := by decide +kernel
set_option maxRecDepth 20000 in
theorem ggX3_servingObstacle_X5_allSteps : GoodIn wsX3_servingObstacle wsX5_allSteps := goodIn_r _ [7, 8, 37, 38, 39, 40, 41, 42, 43, 44, 45, 46, 47, 48, 49, 50, 51, 52, 53, 54, 55, 56] rfl (by decide +kernel)
set_option maxRecDepth 20000 in
theorem gX3_servingObstacle_X5_allSteps : GoodIn wsX3_servingObstacle (wsV RX3 51 RX5 yX5_allSteps wsX5_allSteps) := goodIn_app (goodIn_of _ (by decide +kernel)) ggX3_servingObstacle_X5_allSteps
set_option maxRecDepth 20000 in
theorem ggX3_servingObstacle_X3_dishTaste : GoodIn wsX3_servingObstacle wsX3_dishTaste := goodIn_r _ [13, 1, 2, 14, 15, 16, 17, 18, 19, 20, 21, 22, 23, 24, 25, 26, 27, 28, 29, 30, 31, 32, 33, 34, 35, 36, 37, 38, 39, 40, 41, 42, 43, 44, 45, 46, 47, 48, 49, 50, 51, 52, 53, 54, 55, 56] rfl (by decide +kernel)
set_option maxRecDepth 20000 in
theorem gX3_servingObstacle_X3_dishTaste : GoodIn wsX3_servingObstacle (wsV RX3 200 RX3 yX3_dishTaste wsX3_dishTaste) := goodIn_app (goodIn_of _ (by decide +kernel)) ggX3_servingObstacle_X3_dishTaste
theorem dX3_servingObstacle_0 : decode cX3_servingObstacle 0 = .ok (.aload_n 0, 1) := by decide +kernel
theorem dX3_servingObstacle_1 : decode cX3_servingObstacle 1 = .ok (.getfield 12, 3) := by decide +kernel
theorem dX3_servingObstacle_4 : decode cX3_servingObstacle 4 = .ok (.getfield 59, 3) := by decide +kernel
theorem dX3_servingObstacle_7 : decode cX3_servingObstacle 7 = .ok (.ifCond .eq 5, 3) := by decide +kernel
theorem dX3_servingObstacle_10 : decode cX3_servingObstacle 10 = .ok (.iconst 1, 1) := by decide +kernel
theorem dX3_servingObstacle_11 : decode cX3_servingObstacle 11 = .ok (.ireturn, 1) := by decide +kernel
theorem dX3_servingObstacle_12 : decode cX3_servingObstacle 12 = .ok (.aload_n 0, 1) := by decide +kernel
theorem dX3_servingObstacle_13 : decode cX3_servingObstacle 13 = .ok (.getfield 12, 3) := by decide +kernel
theorem dX3_servingObstacle_16 : decode cX3_servingObstacle 16 = .ok (.getfield 197, 3) := by decide +kernel
theorem dX3_servingObstacle_19 : decode cX3_servingObstacle 19 = .ok (.ifCond .eq 5, 3) := by decide +kernel
theorem dX3_servingObstacle_22 : decode cX3_servingObstacle 22 = .ok (.iconst 2, 1) := by decide +kernel
theorem dX3_servingObstacle_23 : decode cX3_servingObstacle 23 = .ok (.ireturn, 1) := by decide +kernel
theorem dX3_servingObstacle_24 : decode cX3_servingObstacle 24 = .ok (.aload_n 0, 1) := by decide +kernel
theorem dX3_servingObstacle_25 : decode cX3_servingObstacle 25 = .ok (.getfield 12, 3) := by decide +kernel
theorem dX3_servingObstacle_28 : decode cX3_servingObstacle 28 = .ok (.getfield 47, 3) := by decide +kernel
theorem dX3_servingObstacle_31 : decode cX3_servingObstacle 31 = .ok (.aload_n 0, 1) := by decide +kernel
theorem dX3_servingObstacle_32 : decode cX3_servingObstacle 32 = .ok (.getfield 28, 3) := by decide +kernel
theorem dX3_servingObstacle_35 : decode cX3_servingObstacle 35 = .ok (.invokevirtual 51, 3) := by decide +kernel
theorem dX3_servingObstacle_38 : decode cX3_servingObstacle 38 = .ok (.if_icmp .eq 5, 3) := by decide +kernel
theorem dX3_servingObstacle_41 : decode cX3_servingObstacle 41 = .ok (.iconst 3, 1) := by decide +kernel
theorem dX3_servingObstacle_42 : decode cX3_servingObstacle 42 = .ok (.ireturn, 1) := by decide +kernel
theorem dX3_servingObstacle_43 : decode cX3_servingObstacle 43 = .ok (.aload_n 0, 1) := by decide +kernel
theorem dX3_servingObstacle_44 : decode cX3_servingObstacle 44 = .ok (.invokevirtual 200, 3) := by decide +kernel
theorem dX3_servingObstacle_47 : decode cX3_servingObstacle 47 = .ok (.aload_n 0, 1) := by decide +kernel
theorem dX3_servingObstacle_48 : decode cX3_servingObstacle 48 = .ok (.getfield 28, 3) := by decide +kernel
theorem dX3_servingObstacle_51 : decode cX3_servingObstacle 51 = .ok (.getfield 203, 3) := by decide +kernel
theorem dX3_servingObstacle_54 : decode cX3_servingObstacle 54 = .ok (.if_icmp .ge 5, 3) := by decide +kernel
theorem dX3_servingObstacle_57 : decode cX3_servingObstacle 57 = .ok (.iconst 4, 1) := by decide +kernel
theorem dX3_servingObstacle_58 : decode cX3_servingObstacle 58 = .ok (.ireturn, 1) := by decide +kernel
theorem dX3_servingObstacle_59 : decode cX3_servingObstacle 59 = .ok (.aload_n 0, 1) := by decide +kernel
theorem dX3_servingObstacle_60 : decode cX3_servingObstacle 60 = .ok (.invokevirtual 200, 3) := by decide +kernel
theorem dX3_servingObstacle_63 : decode cX3_servingObstacle 63 = .ok (.aload_n 0, 1) := by decide +kernel
theorem dX3_servingObstacle_64 : decode cX3_servingObstacle 64 = .ok (.getfield 28, 3) := by decide +kernel
theorem dX3_servingObstacle_67 : decode cX3_servingObstacle 67 = .ok (.getfield 206, 3) := by decide +kernel
theorem dX3_servingObstacle_70 : decode cX3_servingObstacle 70 = .ok (.if_icmp .le 7, 3) := by decide +kernel
theorem dX3_servingObstacle_73 : decode cX3_servingObstacle 73 = .ok (.iconst 5, 1) := by decide +kernel
theorem dX3_servingObstacle_74 : decode cX3_servingObstacle 74 = .ok (.goto 4, 3) := by decide +kernel
theorem dX3_servingObstacle_77 : decode cX3_servingObstacle 77 = .ok (.iconst 0, 1) := by decide +kernel
theorem dX3_servingObstacle_78 : decode cX3_servingObstacle 78 = .ok (.ireturn, 1) := by decide +kernel
set_option maxRecDepth 20000 in
theorem ggX3_prematureSteps_X11_contains : GoodIn wsX3_prematureSteps wsX11_contains := goodIn_r _ [5] rfl (by decide +kernel)
set_option maxRecDepth 20000 in
theorem gX3_prematureSteps_X11_contains_n100 : GoodIn wsX3_prematureSteps (wsX11_contains) := ggX3_prematureSteps_X11_contains
theorem dX3_prematureSteps_0 : decode cX3_prematureSteps 0 = .ok (.iconst 0, 1) := by decide +kernel
theorem dX3_prematureSteps_1 : decode cX3_prematureSteps 1 = .ok (.istore_n 1, 1) := by decide +kernel
theorem dX3_prematureSteps_2 : decode cX3_prematureSteps 2 = .ok (.iconst 0, 1) := by decide +kernel
theorem dX3_prematureSteps_3 : decode cX3_prematureSteps 3 = .ok (.istore_n 2, 1) := by decide +kernel
theorem dX3_prematureSteps_4 : decode cX3_prematureSteps 4 = .ok (.iload_n 2, 1) := by decide +kernel
theorem dX3_prematureSteps_5 : decode cX3_prematureSteps 5 = .ok (.aload_n 0, 1) := by decide +kernel
theorem dX3_prematureSteps_6 : decode cX3_prematureSteps 6 = .ok (.getfield 28, 3) := by decide +kernel
theorem dX3_prematureSteps_9 : decode cX3_prematureSteps 9 = .ok (.getfield 91, 3) := by decide +kernel
theorem dX3_prematureSteps_12 : decode cX3_prematureSteps 12 = .ok (.getfield 95, 3) := by decide +kernel
theorem dX3_prematureSteps_15 : decode cX3_prematureSteps 15 = .ok (.if_icmp .ge 27, 3) := by decide +kernel
theorem dX3_prematureSteps_18 : decode cX3_prematureSteps 18 = .ok (.aload_n 0, 1) := by decide +kernel
theorem dX3_prematureSteps_19 : decode cX3_prematureSteps 19 = .ok (.getfield 12, 3) := by decide +kernel
theorem dX3_prematureSteps_22 : decode cX3_prematureSteps 22 = .ok (.getfield 209, 3) := by decide +kernel
theorem dX3_prematureSteps_25 : decode cX3_prematureSteps 25 = .ok (.iload_n 2, 1) := by decide +kernel
theorem dX3_prematureSteps_26 : decode cX3_prematureSteps 26 = .ok (.iaload, 1) := by decide +kernel
theorem dX3_prematureSteps_27 : decode cX3_prematureSteps 27 = .ok (.ifCond .le 9, 3) := by decide +kernel
theorem dX3_prematureSteps_30 : decode cX3_prematureSteps 30 = .ok (.iload_n 1, 1) := by decide +kernel
theorem dX3_prematureSteps_31 : decode cX3_prematureSteps 31 = .ok (.iconst 1, 1) := by decide +kernel
theorem dX3_prematureSteps_32 : decode cX3_prematureSteps 32 = .ok (.iload_n 2, 1) := by decide +kernel
theorem dX3_prematureSteps_33 : decode cX3_prematureSteps 33 = .ok (.ishl, 1) := by decide +kernel
theorem dX3_prematureSteps_34 : decode cX3_prematureSteps 34 = .ok (.ior, 1) := by decide +kernel
theorem dX3_prematureSteps_35 : decode cX3_prematureSteps 35 = .ok (.istore_n 1, 1) := by decide +kernel
theorem dX3_prematureSteps_36 : decode cX3_prematureSteps 36 = .ok (.iinc 2 1, 3) := by decide +kernel
theorem dX3_prematureSteps_39 : decode cX3_prematureSteps 39 = .ok (.goto (-35), 3) := by decide +kernel
theorem dX3_prematureSteps_42 : decode cX3_prematureSteps 42 = .ok (.iconst 0, 1) := by decide +kernel
theorem dX3_prematureSteps_43 : decode cX3_prematureSteps 43 = .ok (.istore_n 2, 1) := by decide +kernel
theorem dX3_prematureSteps_44 : decode cX3_prematureSteps 44 = .ok (.iconst 0, 1) := by decide +kernel
theorem dX3_prematureSteps_45 : decode cX3_prematureSteps 45 = .ok (.istore_n 3, 1) := by decide +kernel
theorem dX3_prematureSteps_46 : decode cX3_prematureSteps 46 = .ok (.iload_n 3, 1) := by decide +kernel
theorem dX3_prematureSteps_47 : decode cX3_prematureSteps 47 = .ok (.aload_n 0, 1) := by decide +kernel
theorem dX3_prematureSteps_48 : decode cX3_prematureSteps 48 = .ok (.getfield 28, 3) := by decide +kernel
theorem dX3_prematureSteps_51 : decode cX3_prematureSteps 51 = .ok (.getfield 91, 3) := by decide +kernel
theorem dX3_prematureSteps_54 : decode cX3_prematureSteps 54 = .ok (.getfield 95, 3) := by decide +kernel
theorem dX3_prematureSteps_57 : decode cX3_prematureSteps 57 = .ok (.if_icmp .ge 42, 3) := by decide +kernel
theorem dX3_prematureSteps_60 : decode cX3_prematureSteps 60 = .ok (.aload_n 0, 1) := by decide +kernel
theorem dX3_prematureSteps_61 : decode cX3_prematureSteps 61 = .ok (.getfield 12, 3) := by decide +kernel
theorem dX3_prematureSteps_64 : decode cX3_prematureSteps 64 = .ok (.getfield 82, 3) := by decide +kernel
theorem dX3_prematureSteps_67 : decode cX3_prematureSteps 67 = .ok (.iload_n 3, 1) := by decide +kernel
theorem dX3_prematureSteps_68 : decode cX3_prematureSteps 68 = .ok (.invokestatic 100, 3) := by decide +kernel
theorem dX3_prematureSteps_71 : decode cX3_prematureSteps 71 = .ok (.ifCond .eq 22, 3) := by decide +kernel
theorem dX3_prematureSteps_74 : decode cX3_prematureSteps 74 = .ok (.aload_n 0, 1) := by decide +kernel
theorem dX3_prematureSteps_75 : decode cX3_prematureSteps 75 = .ok (.getfield 28, 3) := by decide +kernel
theorem dX3_prematureSteps_78 : decode cX3_prematureSteps 78 = .ok (.getfield 138, 3) := by decide +kernel
theorem dX3_prematureSteps_81 : decode cX3_prematureSteps 81 = .ok (.iload_n 3, 1) := by decide +kernel
theorem dX3_prematureSteps_82 : decode cX3_prematureSteps 82 = .ok (.iaload, 1) := by decide +kernel
theorem dX3_prematureSteps_83 : decode cX3_prematureSteps 83 = .ok (.iload_n 1, 1) := by decide +kernel
theorem dX3_prematureSteps_84 : decode cX3_prematureSteps 84 = .ok (.iconst (-1), 1) := by decide +kernel
theorem dX3_prematureSteps_85 : decode cX3_prematureSteps 85 = .ok (.ixor, 1) := by decide +kernel
theorem dX3_prematureSteps_86 : decode cX3_prematureSteps 86 = .ok (.iand, 1) := by decide +kernel
theorem dX3_prematureSteps_87 : decode cX3_prematureSteps 87 = .ok (.ifCond .eq 6, 3) := by decide +kernel
theorem dX3_prematureSteps_90 : decode cX3_prematureSteps 90 = .ok (.iinc 2 1, 3) := by decide +kernel
theorem dX3_prematureSteps_93 : decode cX3_prematureSteps 93 = .ok (.iinc 3 1, 3) := by decide +kernel
theorem dX3_prematureSteps_96 : decode cX3_prematureSteps 96 = .ok (.goto (-50), 3) := by decide +kernel
theorem dX3_prematureSteps_99 : decode cX3_prematureSteps 99 = .ok (.iload_n 2, 1) := by decide +kernel
theorem dX3_prematureSteps_100 : decode cX3_prematureSteps 100 = .ok (.ireturn, 1) := by decide +kernel
theorem dX4_init_0 : decode cX4_init 0 = .ok (.aload_n 0, 1) := by decide +kernel
theorem dX4_init_1 : decode cX4_init 1 = .ok (.invokespecial 3, 3) := by decide +kernel
theorem dX4_init_4 : decode cX4_init 4 = .ok (.aload_n 0, 1) := by decide +kernel
theorem dX4_init_5 : decode cX4_init 5 = .ok (.iload_n 1, 1) := by decide +kernel
theorem dX4_init_6 : decode cX4_init 6 = .ok (.bipush 6, 2) := by decide +kernel
theorem dX4_init_8 : decode cX4_init 8 = .ok (.multianewarray 9 2, 4) := by decide +kernel
theorem dX4_init_12 : decode cX4_init 12 = .ok (.putfield 11, 3) := by decide +kernel
theorem dX4_init_15 : decode cX4_init 15 = .ok (.aload_n 0, 1) := by decide +kernel
theorem dX4_init_16 : decode cX4_init 16 = .ok (.iload_n 1, 1) := by decide +kernel
theorem dX4_init_17 : decode cX4_init 17 = .ok (.newarray .int, 2) := by decide +kernel
theorem dX4_init_19 : decode cX4_init 19 = .ok (.putfield 16, 3) := by decide +kernel
theorem dX4_init_22 : decode cX4_init 22 = .ok (.return_, 1) := by decide +kernel
theorem dX4_isFull_0 : decode cX4_isFull 0 = .ok (.aload_n 0, 1) := by decide +kernel
theorem dX4_isFull_1 : decode cX4_isFull 1 = .ok (.getfield 20, 3) := by decide +kernel
theorem dX4_isFull_4 : decode cX4_isFull 4 = .ok (.aload_n 0, 1) := by decide +kernel
theorem dX4_isFull_5 : decode cX4_isFull 5 = .ok (.getfield 16, 3) := by decide +kernel
theorem dX4_isFull_8 : decode cX4_isFull 8 = .ok (.arraylength, 1) := by decide +kernel
theorem dX4_isFull_9 : decode cX4_isFull 9 = .ok (.if_icmp .lt 7, 3) := by decide +kernel
theorem dX4_isFull_12 : decode cX4_isFull 12 = .ok (.iconst 1, 1) := by decide +kernel
theorem dX4_isFull_13 : decode cX4_isFull 13 = .ok (.goto 4, 3) := by decide +kernel
theorem dX4_isFull_16 : decode cX4_isFull 16 = .ok (.iconst 0, 1) := by decide +kernel
theorem dX4_isFull_17 : decode cX4_isFull 17 = .ok (.ireturn, 1) := by decide +kernel
set_option maxRecDepth 20000 in
theorem ggX4_indexOf_X4_matches : GoodIn wsX4_indexOf wsX4_matches := goodIn_r _ [7, 2, 8, 9, 10, 11, 12, 13] rfl (by decide +kernel)
set_option maxRecDepth 20000 in
theorem gX4_indexOf_X4_matches : GoodIn wsX4_indexOf (wsV RX4 24 RX4 yX4_matches wsX4_matches) := goodIn_app (goodIn_of _ (by decide +kernel)) ggX4_indexOf_X4_matches
theorem dX4_indexOf_0 : decode cX4_indexOf 0 = .ok (.iconst 0, 1) := by decide +kernel
theorem dX4_indexOf_1 : decode cX4_indexOf 1 = .ok (.istore 4, 2) := by decide +kernel
theorem dX4_indexOf_3 : decode cX4_indexOf 3 = .ok (.iload 4, 2) := by decide +kernel
theorem dX4_indexOf_5 : decode cX4_indexOf 5 = .ok (.aload_n 0, 1) := by decide +kernel
theorem dX4_indexOf_6 : decode cX4_indexOf 6 = .ok (.getfield 20, 3) := by decide +kernel
theorem dX4_indexOf_9 : decode cX4_indexOf 9 = .ok (.if_icmp .ge 36, 3) := by decide +kernel
theorem dX4_indexOf_12 : decode cX4_indexOf 12 = .ok (.aload_n 0, 1) := by decide +kernel
theorem dX4_indexOf_13 : decode cX4_indexOf 13 = .ok (.getfield 16, 3) := by decide +kernel
theorem dX4_indexOf_16 : decode cX4_indexOf 16 = .ok (.iload 4, 2) := by decide +kernel
theorem dX4_indexOf_18 : decode cX4_indexOf 18 = .ok (.iaload, 1) := by decide +kernel
theorem dX4_indexOf_19 : decode cX4_indexOf 19 = .ok (.iload_n 3, 1) := by decide +kernel
theorem dX4_indexOf_20 : decode cX4_indexOf 20 = .ok (.iload_n 2, 1) := by decide +kernel
theorem dX4_indexOf_21 : decode cX4_indexOf 21 = .ok (.isub, 1) := by decide +kernel
theorem dX4_indexOf_22 : decode cX4_indexOf 22 = .ok (.if_icmp .ne 17, 3) := by decide +kernel
theorem dX4_indexOf_25 : decode cX4_indexOf 25 = .ok (.aload_n 0, 1) := by decide +kernel
theorem dX4_indexOf_26 : decode cX4_indexOf 26 = .ok (.iload 4, 2) := by decide +kernel
theorem dX4_indexOf_28 : decode cX4_indexOf 28 = .ok (.aload_n 1, 1) := by decide +kernel
theorem dX4_indexOf_29 : decode cX4_indexOf 29 = .ok (.iload_n 2, 1) := by decide +kernel
theorem dX4_indexOf_30 : decode cX4_indexOf 30 = .ok (.invokevirtual 24, 3) := by decide +kernel
theorem dX4_indexOf_33 : decode cX4_indexOf 33 = .ok (.ifCond .eq 6, 3) := by decide +kernel
theorem dX4_indexOf_36 : decode cX4_indexOf 36 = .ok (.iload 4, 2) := by decide +kernel
theorem dX4_indexOf_38 : decode cX4_indexOf 38 = .ok (.ireturn, 1) := by decide +kernel
theorem dX4_indexOf_39 : decode cX4_indexOf 39 = .ok (.iinc 4 1, 3) := by decide +kernel
theorem dX4_indexOf_42 : decode cX4_indexOf 42 = .ok (.goto (-39), 3) := by decide +kernel
theorem dX4_indexOf_45 : decode cX4_indexOf 45 = .ok (.iconst (-1), 1) := by decide +kernel
theorem dX4_indexOf_46 : decode cX4_indexOf 46 = .ok (.ireturn, 1) := by decide +kernel
theorem dX4_matches_0 : decode cX4_matches 0 = .ok (.iconst 0, 1) := by decide +kernel
theorem dX4_matches_1 : decode cX4_matches 1 = .ok (.istore 4, 2) := by decide +kernel
theorem dX4_matches_3 : decode cX4_matches 3 = .ok (.iload 4, 2) := by decide +kernel
theorem dX4_matches_5 : decode cX4_matches 5 = .ok (.aload_n 0, 1) := by decide +kernel
theorem dX4_matches_6 : decode cX4_matches 6 = .ok (.getfield 16, 3) := by decide +kernel
theorem dX4_matches_9 : decode cX4_matches 9 = .ok (.iload_n 1, 1) := by decide +kernel
theorem dX4_matches_10 : decode cX4_matches 10 = .ok (.iaload, 1) := by decide +kernel
theorem dX4_matches_11 : decode cX4_matches 11 = .ok (.if_icmp .ge 32, 3) := by decide +kernel
theorem dX4_matches_14 : decode cX4_matches 14 = .ok (.aload_n 0, 1) := by decide +kernel
theorem dX4_matches_15 : decode cX4_matches 15 = .ok (.getfield 11, 3) := by decide +kernel
theorem dX4_matches_18 : decode cX4_matches 18 = .ok (.iload_n 1, 1) := by decide +kernel
theorem dX4_matches_19 : decode cX4_matches 19 = .ok (.aaload, 1) := by decide +kernel
theorem dX4_matches_20 : decode cX4_matches 20 = .ok (.iload 4, 2) := by decide +kernel
theorem dX4_matches_22 : decode cX4_matches 22 = .ok (.baload, 1) := by decide +kernel
theorem dX4_matches_23 : decode cX4_matches 23 = .ok (.aload_n 2, 1) := by decide +kernel
theorem dX4_matches_24 : decode cX4_matches 24 = .ok (.getfield 28, 3) := by decide +kernel
theorem dX4_matches_27 : decode cX4_matches 27 = .ok (.iload_n 3, 1) := by decide +kernel
theorem dX4_matches_28 : decode cX4_matches 28 = .ok (.iload 4, 2) := by decide +kernel
theorem dX4_matches_30 : decode cX4_matches 30 = .ok (.iadd, 1) := by decide +kernel
theorem dX4_matches_31 : decode cX4_matches 31 = .ok (.baload, 1) := by decide +kernel
theorem dX4_matches_32 : decode cX4_matches 32 = .ok (.if_icmp .eq 5, 3) := by decide +kernel
theorem dX4_matches_35 : decode cX4_matches 35 = .ok (.iconst 0, 1) := by decide +kernel
theorem dX4_matches_36 : decode cX4_matches 36 = .ok (.ireturn, 1) := by decide +kernel
theorem dX4_matches_37 : decode cX4_matches 37 = .ok (.iinc 4 1, 3) := by decide +kernel
theorem dX4_matches_40 : decode cX4_matches 40 = .ok (.goto (-37), 3) := by decide +kernel
theorem dX4_matches_43 : decode cX4_matches 43 = .ok (.iconst 1, 1) := by decide +kernel
theorem dX4_matches_44 : decode cX4_matches 44 = .ok (.ireturn, 1) := by decide +kernel
set_option maxRecDepth 20000 in
theorem ggX4_prepare_X4_isFull : GoodIn wsX4_prepare wsX4_isFull := goodIn_r _ [8, 2, 1, 9, 10, 11] rfl (by decide +kernel)
set_option maxRecDepth 20000 in
theorem gX4_prepare_X4_isFull : GoodIn wsX4_prepare (wsV RX4 34 RX4 yX4_isFull wsX4_isFull) := goodIn_app (goodIn_of _ (by decide +kernel)) ggX4_prepare_X4_isFull
theorem dX4_prepare_0 : decode cX4_prepare 0 = .ok (.aload_n 0, 1) := by decide +kernel
theorem dX4_prepare_1 : decode cX4_prepare 1 = .ok (.invokevirtual 34, 3) := by decide +kernel
theorem dX4_prepare_4 : decode cX4_prepare 4 = .ok (.ifCond .ne 11, 3) := by decide +kernel
theorem dX4_prepare_7 : decode cX4_prepare 7 = .ok (.iload_n 3, 1) := by decide +kernel
theorem dX4_prepare_8 : decode cX4_prepare 8 = .ok (.iload_n 2, 1) := by decide +kernel
theorem dX4_prepare_9 : decode cX4_prepare 9 = .ok (.isub, 1) := by decide +kernel
theorem dX4_prepare_10 : decode cX4_prepare 10 = .ok (.bipush 6, 2) := by decide +kernel
theorem dX4_prepare_12 : decode cX4_prepare 12 = .ok (.if_icmp .le 4, 3) := by decide +kernel
theorem dX4_prepare_15 : decode cX4_prepare 15 = .ok (.return_, 1) := by decide +kernel
theorem dX4_prepare_16 : decode cX4_prepare 16 = .ok (.aload_n 0, 1) := by decide +kernel
theorem dX4_prepare_17 : decode cX4_prepare 17 = .ok (.getfield 16, 3) := by decide +kernel
theorem dX4_prepare_20 : decode cX4_prepare 20 = .ok (.aload_n 0, 1) := by decide +kernel
theorem dX4_prepare_21 : decode cX4_prepare 21 = .ok (.getfield 20, 3) := by decide +kernel
theorem dX4_prepare_24 : decode cX4_prepare 24 = .ok (.iload_n 3, 1) := by decide +kernel
theorem dX4_prepare_25 : decode cX4_prepare 25 = .ok (.iload_n 2, 1) := by decide +kernel
theorem dX4_prepare_26 : decode cX4_prepare 26 = .ok (.isub, 1) := by decide +kernel
theorem dX4_prepare_27 : decode cX4_prepare 27 = .ok (.iastore, 1) := by decide +kernel
theorem dX4_prepare_28 : decode cX4_prepare 28 = .ok (.iconst 0, 1) := by decide +kernel
theorem dX4_prepare_29 : decode cX4_prepare 29 = .ok (.istore 4, 2) := by decide +kernel
theorem dX4_prepare_31 : decode cX4_prepare 31 = .ok (.iload 4, 2) := by decide +kernel
theorem dX4_prepare_33 : decode cX4_prepare 33 = .ok (.iload_n 3, 1) := by decide +kernel
theorem dX4_prepare_34 : decode cX4_prepare 34 = .ok (.iload_n 2, 1) := by decide +kernel
theorem dX4_prepare_35 : decode cX4_prepare 35 = .ok (.isub, 1) := by decide +kernel
theorem dX4_prepare_36 : decode cX4_prepare 36 = .ok (.if_icmp .ge 30, 3) := by decide +kernel
theorem dX4_prepare_39 : decode cX4_prepare 39 = .ok (.aload_n 0, 1) := by decide +kernel
theorem dX4_prepare_40 : decode cX4_prepare 40 = .ok (.getfield 11, 3) := by decide +kernel
theorem dX4_prepare_43 : decode cX4_prepare 43 = .ok (.aload_n 0, 1) := by decide +kernel
theorem dX4_prepare_44 : decode cX4_prepare 44 = .ok (.getfield 20, 3) := by decide +kernel
theorem dX4_prepare_47 : decode cX4_prepare 47 = .ok (.aaload, 1) := by decide +kernel
theorem dX4_prepare_48 : decode cX4_prepare 48 = .ok (.iload 4, 2) := by decide +kernel
theorem dX4_prepare_50 : decode cX4_prepare 50 = .ok (.aload_n 1, 1) := by decide +kernel
theorem dX4_prepare_51 : decode cX4_prepare 51 = .ok (.getfield 28, 3) := by decide +kernel
theorem dX4_prepare_54 : decode cX4_prepare 54 = .ok (.iload_n 2, 1) := by decide +kernel
theorem dX4_prepare_55 : decode cX4_prepare 55 = .ok (.iload 4, 2) := by decide +kernel
theorem dX4_prepare_57 : decode cX4_prepare 57 = .ok (.iadd, 1) := by decide +kernel
theorem dX4_prepare_58 : decode cX4_prepare 58 = .ok (.baload, 1) := by decide +kernel
theorem dX4_prepare_59 : decode cX4_prepare 59 = .ok (.bastore, 1) := by decide +kernel
theorem dX4_prepare_60 : decode cX4_prepare 60 = .ok (.iinc 4 1, 3) := by decide +kernel
theorem dX4_prepare_63 : decode cX4_prepare 63 = .ok (.goto (-32), 3) := by decide +kernel
theorem dX4_prepare_66 : decode cX4_prepare 66 = .ok (.return_, 1) := by decide +kernel
set_option maxRecDepth 20000 in
theorem ggX5_init_X4_init : GoodIn wsX5_init wsX4_init := goodIn_r _ [22, 23, 2, 3, 24, 25, 26, 8, 27, 28, 29, 30] rfl (by decide +kernel)
set_option maxRecDepth 20000 in
theorem gX5_init_X4_init : GoodIn wsX5_init (wsX4_init) := ggX5_init_X4_init
theorem dX5_init_0 : decode cX5_init 0 = .ok (.aload_n 0, 1) := by decide +kernel
theorem dX5_init_1 : decode cX5_init 1 = .ok (.invokespecial 3, 3) := by decide +kernel
theorem dX5_init_4 : decode cX5_init 4 = .ok (.aload_n 0, 1) := by decide +kernel
theorem dX5_init_5 : decode cX5_init 5 = .ok (.new 9, 3) := by decide +kernel
theorem dX5_init_8 : decode cX5_init 8 = .ok (.dup, 1) := by decide +kernel
theorem dX5_init_9 : decode cX5_init 9 = .ok (.iconst 4, 1) := by decide +kernel
theorem dX5_init_10 : decode cX5_init 10 = .ok (.invokespecial 11, 3) := by decide +kernel
theorem dX5_init_13 : decode cX5_init 13 = .ok (.putfield 14, 3) := by decide +kernel
theorem dX5_init_16 : decode cX5_init 16 = .ok (.aload_n 0, 1) := by decide +kernel
theorem dX5_init_17 : decode cX5_init 17 = .ok (.iconst 4, 1) := by decide +kernel
theorem dX5_init_18 : decode cX5_init 18 = .ok (.newarray .int, 2) := by decide +kernel
theorem dX5_init_20 : decode cX5_init 20 = .ok (.putfield 20, 3) := by decide +kernel
theorem dX5_init_23 : decode cX5_init 23 = .ok (.aload_n 0, 1) := by decide +kernel
theorem dX5_init_24 : decode cX5_init 24 = .ok (.iconst 4, 1) := by decide +kernel
theorem dX5_init_25 : decode cX5_init 25 = .ok (.newarray .int, 2) := by decide +kernel
theorem dX5_init_27 : decode cX5_init 27 = .ok (.putfield 24, 3) := by decide +kernel
theorem dX5_init_30 : decode cX5_init 30 = .ok (.aload_n 0, 1) := by decide +kernel
theorem dX5_init_31 : decode cX5_init 31 = .ok (.new 9, 3) := by decide +kernel
theorem dX5_init_34 : decode cX5_init 34 = .ok (.dup, 1) := by decide +kernel
theorem dX5_init_35 : decode cX5_init 35 = .ok (.bipush 14, 2) := by decide +kernel
theorem dX5_init_37 : decode cX5_init 37 = .ok (.invokespecial 11, 3) := by decide +kernel
theorem dX5_init_40 : decode cX5_init 40 = .ok (.putfield 27, 3) := by decide +kernel
theorem dX5_init_43 : decode cX5_init 43 = .ok (.aload_n 0, 1) := by decide +kernel
theorem dX5_init_44 : decode cX5_init 44 = .ok (.bipush 14, 2) := by decide +kernel
theorem dX5_init_46 : decode cX5_init 46 = .ok (.newarray .int, 2) := by decide +kernel
theorem dX5_init_48 : decode cX5_init 48 = .ok (.putfield 30, 3) := by decide +kernel
theorem dX5_init_51 : decode cX5_init 51 = .ok (.aload_n 0, 1) := by decide +kernel
theorem dX5_init_52 : decode cX5_init 52 = .ok (.bipush 14, 2) := by decide +kernel
theorem dX5_init_54 : decode cX5_init 54 = .ok (.newarray .int, 2) := by decide +kernel
theorem dX5_init_56 : decode cX5_init 56 = .ok (.putfield 33, 3) := by decide +kernel
theorem dX5_init_59 : decode cX5_init 59 = .ok (.aload_n 0, 1) := by decide +kernel
theorem dX5_init_60 : decode cX5_init 60 = .ok (.bipush 14, 2) := by decide +kernel
theorem dX5_init_62 : decode cX5_init 62 = .ok (.newarray .int, 2) := by decide +kernel
theorem dX5_init_64 : decode cX5_init 64 = .ok (.putfield 36, 3) := by decide +kernel
theorem dX5_init_67 : decode cX5_init 67 = .ok (.aload_n 0, 1) := by decide +kernel
theorem dX5_init_68 : decode cX5_init 68 = .ok (.bipush 14, 2) := by decide +kernel
theorem dX5_init_70 : decode cX5_init 70 = .ok (.iconst 4, 1) := by decide +kernel
theorem dX5_init_71 : decode cX5_init 71 = .ok (.multianewarray 39 2, 4) := by decide +kernel
theorem dX5_init_75 : decode cX5_init 75 = .ok (.putfield 41, 3) := by decide +kernel
theorem dX5_init_78 : decode cX5_init 78 = .ok (.aload_n 0, 1) := by decide +kernel
theorem dX5_init_79 : decode cX5_init 79 = .ok (.bipush 14, 2) := by decide +kernel
theorem dX5_init_81 : decode cX5_init 81 = .ok (.newarray .int, 2) := by decide +kernel
theorem dX5_init_83 : decode cX5_init 83 = .ok (.putfield 44, 3) := by decide +kernel
theorem dX5_init_86 : decode cX5_init 86 = .ok (.aload_n 0, 1) := by decide +kernel
theorem dX5_init_87 : decode cX5_init 87 = .ok (.bipush 14, 2) := by decide +kernel
theorem dX5_init_89 : decode cX5_init 89 = .ok (.newarray .int, 2) := by decide +kernel
theorem dX5_init_91 : decode cX5_init 91 = .ok (.putfield 47, 3) := by decide +kernel
theorem dX5_init_94 : decode cX5_init 94 = .ok (.aload_n 0, 1) := by decide +kernel
theorem dX5_init_95 : decode cX5_init 95 = .ok (.bipush 14, 2) := by decide +kernel
theorem dX5_init_97 : decode cX5_init 97 = .ok (.newarray .int, 2) := by decide +kernel
theorem dX5_init_99 : decode cX5_init 99 = .ok (.putfield 50, 3) := by decide +kernel
theorem dX5_init_102 : decode cX5_init 102 = .ok (.return_, 1) := by decide +kernel
set_option maxRecDepth 20000 in
theorem ggX5_clear_J7_fill_53178 : GoodIn wsX5_clear wsJ7_fill_53178 := goodIn_r _ [12] rfl (by decide +kernel)
set_option maxRecDepth 20000 in
theorem gX5_clear_J7_fill_53178 : GoodIn wsX5_clear (va_wsS RX5 63 yJ7_fill_53178 wsJ7_fill_53178) := goodIn_app (goodIn_of _ (by decide +kernel)) ggX5_clear_J7_fill_53178
theorem dX5_clear_0 : decode cX5_clear 0 = .ok (.aload_n 0, 1) := by decide +kernel
theorem dX5_clear_1 : decode cX5_clear 1 = .ok (.getfield 14, 3) := by decide +kernel
theorem dX5_clear_4 : decode cX5_clear 4 = .ok (.iconst 0, 1) := by decide +kernel
theorem dX5_clear_5 : decode cX5_clear 5 = .ok (.putfield 53, 3) := by decide +kernel
theorem dX5_clear_8 : decode cX5_clear 8 = .ok (.aload_n 0, 1) := by decide +kernel
theorem dX5_clear_9 : decode cX5_clear 9 = .ok (.getfield 27, 3) := by decide +kernel
theorem dX5_clear_12 : decode cX5_clear 12 = .ok (.iconst 0, 1) := by decide +kernel
theorem dX5_clear_13 : decode cX5_clear 13 = .ok (.putfield 53, 3) := by decide +kernel
theorem dX5_clear_16 : decode cX5_clear 16 = .ok (.aload_n 0, 1) := by decide +kernel
theorem dX5_clear_17 : decode cX5_clear 17 = .ok (.iconst 0, 1) := by decide +kernel
theorem dX5_clear_18 : decode cX5_clear 18 = .ok (.putfield 57, 3) := by decide +kernel
theorem dX5_clear_21 : decode cX5_clear 21 = .ok (.aload_n 0, 1) := by decide +kernel
theorem dX5_clear_22 : decode cX5_clear 22 = .ok (.iconst 0, 1) := by decide +kernel
theorem dX5_clear_23 : decode cX5_clear 23 = .ok (.putfield 60, 3) := by decide +kernel
theorem dX5_clear_26 : decode cX5_clear 26 = .ok (.aload_n 0, 1) := by decide +kernel
theorem dX5_clear_27 : decode cX5_clear 27 = .ok (.getfield 24, 3) := by decide +kernel
theorem dX5_clear_30 : decode cX5_clear 30 = .ok (.iconst 0, 1) := by decide +kernel
theorem dX5_clear_31 : decode cX5_clear 31 = .ok (.invokestatic 63, 3) := by decide +kernel
theorem dX5_clear_34 : decode cX5_clear 34 = .ok (.aload_n 0, 1) := by decide +kernel
theorem dX5_clear_35 : decode cX5_clear 35 = .ok (.getfield 44, 3) := by decide +kernel
theorem dX5_clear_38 : decode cX5_clear 38 = .ok (.iconst 0, 1) := by decide +kernel
theorem dX5_clear_39 : decode cX5_clear 39 = .ok (.invokestatic 63, 3) := by decide +kernel
theorem dX5_clear_42 : decode cX5_clear 42 = .ok (.aload_n 0, 1) := by decide +kernel
theorem dX5_clear_43 : decode cX5_clear 43 = .ok (.getfield 47, 3) := by decide +kernel
theorem dX5_clear_46 : decode cX5_clear 46 = .ok (.iconst 0, 1) := by decide +kernel
theorem dX5_clear_47 : decode cX5_clear 47 = .ok (.invokestatic 63, 3) := by decide +kernel
theorem dX5_clear_50 : decode cX5_clear 50 = .ok (.aload_n 0, 1) := by decide +kernel
theorem dX5_clear_51 : decode cX5_clear 51 = .ok (.getfield 50, 3) := by decide +kernel
theorem dX5_clear_54 : decode cX5_clear 54 = .ok (.iconst 0, 1) := by decide +kernel
theorem dX5_clear_55 : decode cX5_clear 55 = .ok (.invokestatic 63, 3) := by decide +kernel
theorem dX5_clear_58 : decode cX5_clear 58 = .ok (.return_, 1) := by decide +kernel
theorem dX5_addPredecessor_0 : decode cX5_addPredecessor 0 = .ok (.aload_n 0, 1) := by decide +kernel
theorem dX5_addPredecessor_1 : decode cX5_addPredecessor 1 = .ok (.getfield 41, 3) := by decide +kernel
theorem dX5_addPredecessor_4 : decode cX5_addPredecessor 4 = .ok (.iload_n 1, 1) := by decide +kernel
theorem dX5_addPredecessor_5 : decode cX5_addPredecessor 5 = .ok (.aaload, 1) := by decide +kernel
theorem dX5_addPredecessor_6 : decode cX5_addPredecessor 6 = .ok (.aload_n 0, 1) := by decide +kernel
theorem dX5_addPredecessor_7 : decode cX5_addPredecessor 7 = .ok (.getfield 44, 3) := by decide +kernel
theorem dX5_addPredecessor_10 : decode cX5_addPredecessor 10 = .ok (.iload_n 1, 1) := by decide +kernel
theorem dX5_addPredecessor_11 : decode cX5_addPredecessor 11 = .ok (.iaload, 1) := by decide +kernel
theorem dX5_addPredecessor_12 : decode cX5_addPredecessor 12 = .ok (.iload_n 2, 1) := by decide +kernel
theorem dX5_addPredecessor_13 : decode cX5_addPredecessor 13 = .ok (.iastore, 1) := by decide +kernel
theorem dX5_addPredecessor_14 : decode cX5_addPredecessor 14 = .ok (.aload_n 0, 1) := by decide +kernel
theorem dX5_addPredecessor_15 : decode cX5_addPredecessor 15 = .ok (.getfield 44, 3) := by decide +kernel
theorem dX5_addPredecessor_18 : decode cX5_addPredecessor 18 = .ok (.iload_n 1, 1) := by decide +kernel
theorem dX5_addPredecessor_19 : decode cX5_addPredecessor 19 = .ok (.dup2, 1) := by decide +kernel
theorem dX5_addPredecessor_20 : decode cX5_addPredecessor 20 = .ok (.iaload, 1) := by decide +kernel
theorem dX5_addPredecessor_21 : decode cX5_addPredecessor 21 = .ok (.iconst 1, 1) := by decide +kernel
theorem dX5_addPredecessor_22 : decode cX5_addPredecessor 22 = .ok (.iadd, 1) := by decide +kernel
theorem dX5_addPredecessor_23 : decode cX5_addPredecessor 23 = .ok (.iastore, 1) := by decide +kernel
theorem dX5_addPredecessor_24 : decode cX5_addPredecessor 24 = .ok (.aload_n 0, 1) := by decide +kernel
theorem dX5_addPredecessor_25 : decode cX5_addPredecessor 25 = .ok (.getfield 47, 3) := by decide +kernel
theorem dX5_addPredecessor_28 : decode cX5_addPredecessor 28 = .ok (.iload_n 1, 1) := by decide +kernel
theorem dX5_addPredecessor_29 : decode cX5_addPredecessor 29 = .ok (.dup2, 1) := by decide +kernel
theorem dX5_addPredecessor_30 : decode cX5_addPredecessor 30 = .ok (.iaload, 1) := by decide +kernel
theorem dX5_addPredecessor_31 : decode cX5_addPredecessor 31 = .ok (.iconst 1, 1) := by decide +kernel
theorem dX5_addPredecessor_32 : decode cX5_addPredecessor 32 = .ok (.iload_n 2, 1) := by decide +kernel
theorem dX5_addPredecessor_33 : decode cX5_addPredecessor 33 = .ok (.ishl, 1) := by decide +kernel
theorem dX5_addPredecessor_34 : decode cX5_addPredecessor 34 = .ok (.ior, 1) := by decide +kernel
theorem dX5_addPredecessor_35 : decode cX5_addPredecessor 35 = .ok (.iastore, 1) := by decide +kernel
theorem dX5_addPredecessor_36 : decode cX5_addPredecessor 36 = .ok (.aload_n 0, 1) := by decide +kernel
theorem dX5_addPredecessor_37 : decode cX5_addPredecessor 37 = .ok (.getfield 50, 3) := by decide +kernel
theorem dX5_addPredecessor_40 : decode cX5_addPredecessor 40 = .ok (.iload_n 2, 1) := by decide +kernel
theorem dX5_addPredecessor_41 : decode cX5_addPredecessor 41 = .ok (.dup2, 1) := by decide +kernel
theorem dX5_addPredecessor_42 : decode cX5_addPredecessor 42 = .ok (.iaload, 1) := by decide +kernel
theorem dX5_addPredecessor_43 : decode cX5_addPredecessor 43 = .ok (.iconst 1, 1) := by decide +kernel
theorem dX5_addPredecessor_44 : decode cX5_addPredecessor 44 = .ok (.iload_n 1, 1) := by decide +kernel
theorem dX5_addPredecessor_45 : decode cX5_addPredecessor 45 = .ok (.ishl, 1) := by decide +kernel
theorem dX5_addPredecessor_46 : decode cX5_addPredecessor 46 = .ok (.ior, 1) := by decide +kernel
theorem dX5_addPredecessor_47 : decode cX5_addPredecessor 47 = .ok (.iastore, 1) := by decide +kernel
theorem dX5_addPredecessor_48 : decode cX5_addPredecessor 48 = .ok (.return_, 1) := by decide +kernel
theorem dX5_allSteps_0 : decode cX5_allSteps 0 = .ok (.iconst 1, 1) := by decide +kernel
theorem dX5_allSteps_1 : decode cX5_allSteps 1 = .ok (.aload_n 0, 1) := by decide +kernel
theorem dX5_allSteps_2 : decode cX5_allSteps 2 = .ok (.getfield 27, 3) := by decide +kernel
theorem dX5_allSteps_5 : decode cX5_allSteps 5 = .ok (.getfield 53, 3) := by decide +kernel
theorem dX5_allSteps_8 : decode cX5_allSteps 8 = .ok (.ishl, 1) := by decide +kernel
theorem dX5_allSteps_9 : decode cX5_allSteps 9 = .ok (.iconst 1, 1) := by decide +kernel
theorem dX5_allSteps_10 : decode cX5_allSteps 10 = .ok (.isub, 1) := by decide +kernel
theorem dX5_allSteps_11 : decode cX5_allSteps 11 = .ok (.ireturn, 1) := by decide +kernel
theorem dX6_init_0 : decode cX6_init 0 = .ok (.aload_n 0, 1) := by decide +kernel
theorem dX6_init_1 : decode cX6_init 1 = .ok (.invokespecial 3, 3) := by decide +kernel
theorem dX6_init_4 : decode cX6_init 4 = .ok (.aload_n 0, 1) := by decide +kernel
theorem dX6_init_5 : decode cX6_init 5 = .ok (.bipush 30, 2) := by decide +kernel
theorem dX6_init_7 : decode cX6_init 7 = .ok (.anewarray 9, 3) := by decide +kernel
theorem dX6_init_10 : decode cX6_init 10 = .ok (.putfield 11, 3) := by decide +kernel
theorem dX6_init_13 : decode cX6_init 13 = .ok (.aload_n 0, 1) := by decide +kernel
theorem dX6_init_14 : decode cX6_init 14 = .ok (.bipush 30, 2) := by decide +kernel
theorem dX6_init_16 : decode cX6_init 16 = .ok (.newarray .int, 2) := by decide +kernel
theorem dX6_init_18 : decode cX6_init 18 = .ok (.putfield 17, 3) := by decide +kernel
theorem dX6_init_21 : decode cX6_init 21 = .ok (.aload_n 0, 1) := by decide +kernel
theorem dX6_init_22 : decode cX6_init 22 = .ok (.bipush 30, 2) := by decide +kernel
theorem dX6_init_24 : decode cX6_init 24 = .ok (.newarray .int, 2) := by decide +kernel
theorem dX6_init_26 : decode cX6_init 26 = .ok (.putfield 21, 3) := by decide +kernel
theorem dX6_init_29 : decode cX6_init 29 = .ok (.aload_n 0, 1) := by decide +kernel
theorem dX6_init_30 : decode cX6_init 30 = .ok (.aload_n 1, 1) := by decide +kernel
theorem dX6_init_31 : decode cX6_init 31 = .ok (.putfield 24, 3) := by decide +kernel
theorem dX6_init_34 : decode cX6_init 34 = .ok (.iconst 0, 1) := by decide +kernel
theorem dX6_init_35 : decode cX6_init 35 = .ok (.istore_n 2, 1) := by decide +kernel
theorem dX6_init_36 : decode cX6_init 36 = .ok (.iload_n 2, 1) := by decide +kernel
theorem dX6_init_37 : decode cX6_init 37 = .ok (.bipush 30, 2) := by decide +kernel
theorem dX6_init_39 : decode cX6_init 39 = .ok (.if_icmp .ge 18, 3) := by decide +kernel
theorem dX6_init_42 : decode cX6_init 42 = .ok (.aload_n 0, 1) := by decide +kernel
theorem dX6_init_43 : decode cX6_init 43 = .ok (.getfield 11, 3) := by decide +kernel
theorem dX6_init_46 : decode cX6_init 46 = .ok (.iload_n 2, 1) := by decide +kernel
theorem dX6_init_47 : decode cX6_init 47 = .ok (.getstatic 28, 3) := by decide +kernel
theorem dX6_init_50 : decode cX6_init 50 = .ok (.aastore, 1) := by decide +kernel
theorem dX6_init_51 : decode cX6_init 51 = .ok (.iinc 2 1, 3) := by decide +kernel
theorem dX6_init_54 : decode cX6_init 54 = .ok (.goto (-18), 3) := by decide +kernel
theorem dX6_init_57 : decode cX6_init 57 = .ok (.return_, 1) := by decide +kernel
theorem dX7_init_0 : decode cX7_init 0 = .ok (.aload_n 0, 1) := by decide +kernel
theorem dX7_init_1 : decode cX7_init 1 = .ok (.invokespecial 3, 3) := by decide +kernel
theorem dX7_init_4 : decode cX7_init 4 = .ok (.aload_n 0, 1) := by decide +kernel
theorem dX7_init_5 : decode cX7_init 5 = .ok (.aload_n 1, 1) := by decide +kernel
theorem dX7_init_6 : decode cX7_init 6 = .ok (.putfield 9, 3) := by decide +kernel
theorem dX7_init_9 : decode cX7_init 9 = .ok (.return_, 1) := by decide +kernel
set_option maxRecDepth 20000 in
theorem ggX7_readInto_X5_clear : GoodIn wsX7_readInto wsX5_clear := goodIn_r _ [6, 7, 8, 9, 10, 11, 12, 13, 14, 15, 16, 17, 18, 182, 183, 184, 185, 186, 187, 188, 189, 190, 191, 192, 193, 194, 195, 196, 197, 198, 199, 200, 201] rfl (by decide +kernel)
set_option maxRecDepth 20000 in
theorem gX7_readInto_X5_clear : GoodIn wsX7_readInto (wsV RX7 15 RX5 yX5_clear wsX5_clear) := goodIn_app (goodIn_of _ (by decide +kernel)) ggX7_readInto_X5_clear
set_option maxRecDepth 20000 in
theorem ggX7_readInto_X10_begin : GoodIn wsX7_readInto wsX10_begin := goodIn_r _ [23, 24, 25, 26, 27, 28, 29, 22, 30, 31, 32, 33, 34, 35, 36, 37, 38, 39, 40, 41, 42, 43, 202, 203, 204, 205, 206, 207, 208, 209] rfl (by decide +kernel)
set_option maxRecDepth 20000 in
theorem gX7_readInto_X10_begin : GoodIn wsX7_readInto (wsV RX7 20 RX10 yX10_begin wsX10_begin) := goodIn_app (goodIn_of _ (by decide +kernel)) ggX7_readInto_X10_begin
set_option maxRecDepth 20000 in
theorem ggX7_readInto_X7_readHead : GoodIn wsX7_readInto wsX7_readHead := goodIn_r _ [48, 1, 49, 50, 51, 22, 52, 53, 54, 55, 56, 33, 26, 31, 32, 57, 58, 59, 60, 61, 62, 63, 64, 65, 66, 67, 68, 69, 70, 71, 72, 73, 74, 75, 76, 77, 78, 79, 80, 81, 82, 83, 84, 85, 86, 87, 88, 89, 90, 91, 92, 93, 94, 95, 96, 97, 98, 99, 100, 101, 102, 103, 104, 105, 27, 28, 29, 30, 34, 35, 36, 37, 38, 39, 40, 41, 42, 43, 106, 107, 108, 109, 24, 25, 110, 111, 112, 113, 114, 115, 116, 117, 118, 181, 182, 183, 184, 185, 186, 187, 188, 189, 190, 191, 192, 193, 194, 195, 196, 197, 198, 202, 203, 204, 205, 206, 207, 208, 209, 210, 211, 212, 213] rfl (by decide +kernel)
set_option maxRecDepth 20000 in
theorem gX7_readInto_X7_readHead : GoodIn wsX7_readInto (wsV RX7 25 RX7 yX7_readHead wsX7_readHead) := goodIn_app (goodIn_of _ (by decide +kernel)) ggX7_readInto_X7_readHead
set_option maxRecDepth 20000 in
theorem ggX7_readInto_X10_isWord : GoodIn wsX7_readInto wsX10_isWord := goodIn_r _ [56, 33, 26, 31, 32, 57, 58, 59, 60, 61, 62, 63, 64, 65, 66, 67, 68, 69, 70, 71, 72, 73, 74, 75, 76, 77, 78, 79, 80, 81, 82, 83, 84, 85, 86, 87, 88, 89, 90, 91, 92, 93, 94, 95, 96, 97, 98, 99, 100, 101, 102, 103, 104, 105, 202, 203, 204, 205, 206, 207, 208, 209, 210, 211, 212, 213] rfl (by decide +kernel)
set_option maxRecDepth 20000 in
theorem gX7_readInto_X10_isWord : GoodIn wsX7_readInto (wsV RX7 31 RX10 yX10_isWord wsX10_isWord) := goodIn_app (goodIn_of _ (by decide +kernel)) ggX7_readInto_X10_isWord
set_option maxRecDepth 20000 in
theorem ggX7_readInto_X7_readPan : GoodIn wsX7_readInto wsX7_readPan := goodIn_r _ [123, 1, 124, 125, 126, 127, 128, 129, 130, 106, 107, 108, 22, 109, 33, 24, 31, 25, 131, 28, 29, 30, 26, 32, 34, 35, 36, 37, 38, 39, 40, 41, 42, 43, 132, 133, 134, 135, 114, 136, 137, 138, 139, 140, 141, 142, 143, 144, 145, 146, 147, 148, 149, 27, 110, 111, 112, 113, 115, 116, 117, 118, 182, 183, 184, 185, 186, 187, 188, 189, 190, 191, 192, 193, 194, 195, 196, 197, 198, 199, 200, 201, 181, 202, 203, 204, 205, 206, 207, 208, 209] rfl (by decide +kernel)
set_option maxRecDepth 20000 in
theorem gX7_readInto_X7_readPan : GoodIn wsX7_readInto (wsV RX7 35 RX7 yX7_readPan wsX7_readPan) := goodIn_app (goodIn_of _ (by decide +kernel)) ggX7_readInto_X7_readPan
set_option maxRecDepth 20000 in
theorem ggX7_readInto_X7_readStep : GoodIn wsX7_readInto wsX7_readStep := goodIn_r _ [153, 1, 119, 54, 55, 22, 56, 33, 26, 31, 32, 57, 58, 59, 60, 61, 62, 63, 64, 65, 66, 67, 68, 69, 70, 71, 72, 73, 74, 75, 76, 77, 78, 79, 80, 81, 82, 83, 84, 85, 86, 87, 88, 89, 90, 91, 92, 93, 94, 95, 96, 97, 98, 99, 100, 101, 102, 103, 104, 105, 106, 107, 108, 109, 24, 25, 124, 125, 126, 127, 128, 129, 130, 131, 28, 29, 30, 34, 35, 36, 37, 38, 39, 40, 41, 42, 43, 132, 133, 134, 135, 114, 136, 137, 138, 139, 140, 141, 142, 143, 144, 145, 146, 147, 148, 149, 27, 110, 111, 112, 113, 154, 155, 156, 47, 157, 49, 50, 51, 52, 53, 158, 159, 160, 161, 162, 163, 164, 165, 166, 167, 168, 169, 170, 171, 172, 173, 174, 5, 175, 176, 12, 13, 14, 115, 116, 117, 118, 182, 183, 184, 185, 186, 187, 188, 189, 190, 191, 192, 193, 194, 195, 196, 197, 198, 199, 200, 201, 181, 202, 203, 204, 205, 206, 207, 208, 209, 210, 211, 212, 213] rfl (by decide +kernel)
set_option maxRecDepth 20000 in
theorem gX7_readInto_X7_readStep : GoodIn wsX7_readInto (wsV RX7 38 RX7 yX7_readStep wsX7_readStep) := goodIn_app (goodIn_of _ (by decide +kernel)) ggX7_readInto_X7_readStep
set_option maxRecDepth 20000 in
theorem ggX7_readInto_X10_mayGoOn : GoodIn wsX7_readInto wsX10_mayGoOn := goodIn_r _ [180, 33, 202, 203, 204, 205, 206, 207] rfl (by decide +kernel)
set_option maxRecDepth 20000 in
theorem gX7_readInto_X10_mayGoOn : GoodIn wsX7_readInto (wsV RX7 41 RX10 yX10_mayGoOn wsX10_mayGoOn) := goodIn_app (goodIn_of _ (by decide +kernel)) ggX7_readInto_X10_mayGoOn
theorem dX7_readInto_0 : decode cX7_readInto 0 = .ok (.aload_n 1, 1) := by decide +kernel
theorem dX7_readInto_1 : decode cX7_readInto 1 = .ok (.invokevirtual 15, 3) := by decide +kernel
theorem dX7_readInto_4 : decode cX7_readInto 4 = .ok (.aload_n 0, 1) := by decide +kernel
theorem dX7_readInto_5 : decode cX7_readInto 5 = .ok (.getfield 9, 3) := by decide +kernel
theorem dX7_readInto_8 : decode cX7_readInto 8 = .ok (.invokevirtual 20, 3) := by decide +kernel
theorem dX7_readInto_11 : decode cX7_readInto 11 = .ok (.aload_n 0, 1) := by decide +kernel
theorem dX7_readInto_12 : decode cX7_readInto 12 = .ok (.aload_n 1, 1) := by decide +kernel
theorem dX7_readInto_13 : decode cX7_readInto 13 = .ok (.invokevirtual 25, 3) := by decide +kernel
theorem dX7_readInto_16 : decode cX7_readInto 16 = .ok (.iconst 0, 1) := by decide +kernel
theorem dX7_readInto_17 : decode cX7_readInto 17 = .ok (.istore_n 2, 1) := by decide +kernel
theorem dX7_readInto_18 : decode cX7_readInto 18 = .ok (.iload_n 2, 1) := by decide +kernel
theorem dX7_readInto_19 : decode cX7_readInto 19 = .ok (.iconst 4, 1) := by decide +kernel
theorem dX7_readInto_20 : decode cX7_readInto 20 = .ok (.if_icmp .gt 26, 3) := by decide +kernel
theorem dX7_readInto_23 : decode cX7_readInto 23 = .ok (.aload_n 0, 1) := by decide +kernel
theorem dX7_readInto_24 : decode cX7_readInto 24 = .ok (.getfield 9, 3) := by decide +kernel
theorem dX7_readInto_27 : decode cX7_readInto 27 = .ok (.ldc 29, 2) := by decide +kernel
theorem dX7_readInto_29 : decode cX7_readInto 29 = .ok (.invokevirtual 31, 3) := by decide +kernel
theorem dX7_readInto_32 : decode cX7_readInto 32 = .ok (.ifCond .eq 14, 3) := by decide +kernel
theorem dX7_readInto_35 : decode cX7_readInto 35 = .ok (.aload_n 0, 1) := by decide +kernel
theorem dX7_readInto_36 : decode cX7_readInto 36 = .ok (.aload_n 1, 1) := by decide +kernel
theorem dX7_readInto_37 : decode cX7_readInto 37 = .ok (.invokevirtual 35, 3) := by decide +kernel
theorem dX7_readInto_40 : decode cX7_readInto 40 = .ok (.iinc 2 1, 3) := by decide +kernel
theorem dX7_readInto_43 : decode cX7_readInto 43 = .ok (.goto (-25), 3) := by decide +kernel
theorem dX7_readInto_46 : decode cX7_readInto 46 = .ok (.aload_n 0, 1) := by decide +kernel
theorem dX7_readInto_47 : decode cX7_readInto 47 = .ok (.aload_n 1, 1) := by decide +kernel
theorem dX7_readInto_48 : decode cX7_readInto 48 = .ok (.invokevirtual 38, 3) := by decide +kernel
theorem dX7_readInto_51 : decode cX7_readInto 51 = .ok (.iconst 1, 1) := by decide +kernel
theorem dX7_readInto_52 : decode cX7_readInto 52 = .ok (.istore_n 2, 1) := by decide +kernel
theorem dX7_readInto_53 : decode cX7_readInto 53 = .ok (.iload_n 2, 1) := by decide +kernel
theorem dX7_readInto_54 : decode cX7_readInto 54 = .ok (.bipush 14, 2) := by decide +kernel
theorem dX7_readInto_56 : decode cX7_readInto 56 = .ok (.if_icmp .gt 24, 3) := by decide +kernel
theorem dX7_readInto_59 : decode cX7_readInto 59 = .ok (.aload_n 0, 1) := by decide +kernel
theorem dX7_readInto_60 : decode cX7_readInto 60 = .ok (.getfield 9, 3) := by decide +kernel
theorem dX7_readInto_63 : decode cX7_readInto 63 = .ok (.invokevirtual 41, 3) := by decide +kernel
theorem dX7_readInto_66 : decode cX7_readInto 66 = .ok (.ifCond .eq 14, 3) := by decide +kernel
theorem dX7_readInto_69 : decode cX7_readInto 69 = .ok (.aload_n 0, 1) := by decide +kernel
theorem dX7_readInto_70 : decode cX7_readInto 70 = .ok (.aload_n 1, 1) := by decide +kernel
theorem dX7_readInto_71 : decode cX7_readInto 71 = .ok (.invokevirtual 38, 3) := by decide +kernel
theorem dX7_readInto_74 : decode cX7_readInto 74 = .ok (.iinc 2 1, 3) := by decide +kernel
theorem dX7_readInto_77 : decode cX7_readInto 77 = .ok (.goto (-24), 3) := by decide +kernel
theorem dX7_readInto_80 : decode cX7_readInto 80 = .ok (.return_, 1) := by decide +kernel
set_option maxRecDepth 20000 in
theorem ggX7_readHead_X10_accept : GoodIn wsX7_readHead wsX10_accept := goodIn_r _ [6, 7, 8, 9, 5, 10, 11, 12, 13, 14, 15, 16, 17, 18, 19, 20, 21, 22, 23, 24, 25, 26, 27, 28, 29, 30, 31, 32, 33, 34, 35, 36, 37, 38, 39, 40, 41, 42, 43, 44, 45, 46, 47, 48, 49, 50, 51, 52, 53, 54, 55, 56, 57, 58, 59, 60, 61, 62, 63, 64, 65, 66, 67, 68, 69, 70, 71, 72, 73, 74, 75, 76, 77, 111, 112, 113, 114, 115, 116, 117, 118, 119, 120, 121, 122] rfl (by decide +kernel)
set_option maxRecDepth 20000 in
theorem gX7_readHead_X10_accept : GoodIn wsX7_readHead (wsV RX7 47 RX10 yX10_accept wsX10_accept) := goodIn_app (goodIn_of _ (by decide +kernel)) ggX7_readHead_X10_accept
set_option maxRecDepth 20000 in
theorem ggX7_readHead_X10_fail : GoodIn wsX7_readHead wsX10_fail := goodIn_r _ [81, 11, 82, 13, 83, 111, 112, 113, 114, 115, 116] rfl (by decide +kernel)
set_option maxRecDepth 20000 in
theorem gX7_readHead_X10_fail : GoodIn wsX7_readHead (wsV RX7 50 RX10 yX10_fail wsX10_fail) := goodIn_app (goodIn_of _ (by decide +kernel)) ggX7_readHead_X10_fail
set_option maxRecDepth 20000 in
theorem ggX7_readHead_X10_expectNumber : GoodIn wsX7_readHead wsX10_expectNumber := goodIn_r _ [87, 11, 13, 12, 14, 88, 79, 80, 5, 81, 82, 83, 71, 72, 73, 64, 65, 66, 67, 68, 69, 70, 74, 75, 76, 77, 111, 112, 113, 114, 115, 116, 117, 118] rfl (by decide +kernel)
set_option maxRecDepth 20000 in
theorem gX7_readHead_X10_expectNumber : GoodIn wsX7_readHead (wsV RX7 54 RX10 yX10_expectNumber wsX10_expectNumber) := goodIn_app (goodIn_of _ (by decide +kernel)) ggX7_readHead_X10_expectNumber
set_option maxRecDepth 20000 in
theorem ggX7_readHead_X10_expectSemicolon : GoodIn wsX7_readHead wsX10_expectSemicolon := goodIn_r _ [92, 11, 88, 79, 80, 5, 81, 82, 13, 83, 64, 65, 66, 67, 12, 14, 68, 69, 70, 71, 72, 73, 74, 75, 76, 77, 111, 112, 113, 114, 115, 116, 117, 118] rfl (by decide +kernel)
set_option maxRecDepth 20000 in
theorem gX7_readHead_X10_expectSemicolon : GoodIn wsX7_readHead (wsV RX7 71 RX10 yX10_expectSemicolon wsX10_expectSemicolon) := goodIn_app (goodIn_of _ (by decide +kernel)) ggX7_readHead_X10_expectSemicolon
theorem dX7_readHead_0 : decode cX7_readHead 0 = .ok (.aload_n 0, 1) := by decide +kernel
theorem dX7_readHead_1 : decode cX7_readHead 1 = .ok (.getfield 9, 3) := by decide +kernel
theorem dX7_readHead_4 : decode cX7_readHead 4 = .ok (.ldc 45, 2) := by decide +kernel
theorem dX7_readHead_6 : decode cX7_readHead 6 = .ok (.invokevirtual 47, 3) := by decide +kernel
theorem dX7_readHead_9 : decode cX7_readHead 9 = .ok (.ifCond .ne 11, 3) := by decide +kernel
theorem dX7_readHead_12 : decode cX7_readHead 12 = .ok (.aload_n 0, 1) := by decide +kernel
theorem dX7_readHead_13 : decode cX7_readHead 13 = .ok (.getfield 9, 3) := by decide +kernel
theorem dX7_readHead_16 : decode cX7_readHead 16 = .ok (.iconst 1, 1) := by decide +kernel
theorem dX7_readHead_17 : decode cX7_readHead 17 = .ok (.invokevirtual 50, 3) := by decide +kernel
theorem dX7_readHead_20 : decode cX7_readHead 20 = .ok (.aload_n 1, 1) := by decide +kernel
theorem dX7_readHead_21 : decode cX7_readHead 21 = .ok (.aload_n 0, 1) := by decide +kernel
theorem dX7_readHead_22 : decode cX7_readHead 22 = .ok (.getfield 9, 3) := by decide +kernel
theorem dX7_readHead_25 : decode cX7_readHead 25 = .ok (.iconst 1, 1) := by decide +kernel
theorem dX7_readHead_26 : decode cX7_readHead 26 = .ok (.iconst 4, 1) := by decide +kernel
theorem dX7_readHead_27 : decode cX7_readHead 27 = .ok (.invokevirtual 54, 3) := by decide +kernel
theorem dX7_readHead_30 : decode cX7_readHead 30 = .ok (.putfield 58, 3) := by decide +kernel
theorem dX7_readHead_33 : decode cX7_readHead 33 = .ok (.aload_n 1, 1) := by decide +kernel
theorem dX7_readHead_34 : decode cX7_readHead 34 = .ok (.aload_n 0, 1) := by decide +kernel
theorem dX7_readHead_35 : decode cX7_readHead 35 = .ok (.getfield 9, 3) := by decide +kernel
theorem dX7_readHead_38 : decode cX7_readHead 38 = .ok (.iconst 0, 1) := by decide +kernel
theorem dX7_readHead_39 : decode cX7_readHead 39 = .ok (.bipush 30, 2) := by decide +kernel
theorem dX7_readHead_41 : decode cX7_readHead 41 = .ok (.invokevirtual 54, 3) := by decide +kernel
theorem dX7_readHead_44 : decode cX7_readHead 44 = .ok (.putfield 62, 3) := by decide +kernel
theorem dX7_readHead_47 : decode cX7_readHead 47 = .ok (.aload_n 1, 1) := by decide +kernel
theorem dX7_readHead_48 : decode cX7_readHead 48 = .ok (.aload_n 0, 1) := by decide +kernel
theorem dX7_readHead_49 : decode cX7_readHead 49 = .ok (.getfield 9, 3) := by decide +kernel
theorem dX7_readHead_52 : decode cX7_readHead 52 = .ok (.iconst 0, 1) := by decide +kernel
theorem dX7_readHead_53 : decode cX7_readHead 53 = .ok (.bipush 99, 2) := by decide +kernel
theorem dX7_readHead_55 : decode cX7_readHead 55 = .ok (.invokevirtual 54, 3) := by decide +kernel
theorem dX7_readHead_58 : decode cX7_readHead 58 = .ok (.putfield 65, 3) := by decide +kernel
theorem dX7_readHead_61 : decode cX7_readHead 61 = .ok (.aload_n 1, 1) := by decide +kernel
theorem dX7_readHead_62 : decode cX7_readHead 62 = .ok (.aload_n 0, 1) := by decide +kernel
theorem dX7_readHead_63 : decode cX7_readHead 63 = .ok (.getfield 9, 3) := by decide +kernel
theorem dX7_readHead_66 : decode cX7_readHead 66 = .ok (.aload_n 1, 1) := by decide +kernel
theorem dX7_readHead_67 : decode cX7_readHead 67 = .ok (.getfield 65, 3) := by decide +kernel
theorem dX7_readHead_70 : decode cX7_readHead 70 = .ok (.bipush 99, 2) := by decide +kernel
theorem dX7_readHead_72 : decode cX7_readHead 72 = .ok (.invokevirtual 54, 3) := by decide +kernel
theorem dX7_readHead_75 : decode cX7_readHead 75 = .ok (.putfield 68, 3) := by decide +kernel
theorem dX7_readHead_78 : decode cX7_readHead 78 = .ok (.aload_n 0, 1) := by decide +kernel
theorem dX7_readHead_79 : decode cX7_readHead 79 = .ok (.getfield 9, 3) := by decide +kernel
theorem dX7_readHead_82 : decode cX7_readHead 82 = .ok (.invokevirtual 71, 3) := by decide +kernel
theorem dX7_readHead_85 : decode cX7_readHead 85 = .ok (.return_, 1) := by decide +kernel
set_option maxRecDepth 20000 in
theorem ggX7_readPan_X4_isFull : GoodIn wsX7_readPan wsX4_isFull := goodIn_r _ [6, 7, 8, 79, 80, 81] rfl (by decide +kernel)
set_option maxRecDepth 20000 in
theorem gX7_readPan_X4_isFull : GoodIn wsX7_readPan (wsV RX7 83 RX4 yX4_isFull wsX4_isFull) := goodIn_app (goodIn_of _ (by decide +kernel)) ggX7_readPan_X4_isFull
set_option maxRecDepth 20000 in
theorem ggX7_readPan_X10_fail : GoodIn wsX7_readPan wsX10_fail := goodIn_r _ [13, 14, 15, 16, 17, 83, 84, 85, 86, 87, 88] rfl (by decide +kernel)
set_option maxRecDepth 20000 in
theorem gX7_readPan_X10_fail : GoodIn wsX7_readPan (wsV RX7 50 RX10 yX10_fail wsX10_fail) := goodIn_app (goodIn_of _ (by decide +kernel)) ggX7_readPan_X10_fail
set_option maxRecDepth 20000 in
theorem ggX7_readPan_X10_advance : GoodIn wsX7_readPan wsX10_advance := goodIn_r _ [21, 22, 16, 23, 14, 24, 25, 12, 26, 27, 28, 29, 30, 31, 32, 33, 83, 84, 85, 86, 87, 88, 89, 90] rfl (by decide +kernel)
set_option maxRecDepth 20000 in
theorem gX7_readPan_X10_advance : GoodIn wsX7_readPan (wsV RX7 86 RX10 yX10_advance wsX10_advance) := goodIn_app (goodIn_of _ (by decide +kernel)) ggX7_readPan_X10_advance
set_option maxRecDepth 20000 in
theorem ggX7_readPan_X10_expectNewName : GoodIn wsX7_readPan wsX10_expectNewName := goodIn_r _ [37, 14, 22, 16, 23, 38, 10, 11, 12, 13, 15, 17, 39, 40, 41, 5, 42, 7, 8, 43, 44, 45, 46, 47, 48, 49, 50, 51, 52, 3, 4, 6, 53, 19, 20, 21, 24, 25, 26, 27, 28, 29, 30, 31, 32, 33, 83, 84, 85, 86, 87, 88, 79, 80, 81, 89, 90] rfl (by decide +kernel)
set_option maxRecDepth 20000 in
theorem gX7_readPan_X10_expectNewName : GoodIn wsX7_readPan (wsV RX7 89 RX10 yX10_expectNewName wsX10_expectNewName) := goodIn_app (goodIn_of _ (by decide +kernel)) ggX7_readPan_X10_expectNewName
set_option maxRecDepth 20000 in
theorem ggX7_readPan_X10_expectNumber : GoodIn wsX7_readPan wsX10_expectNumber := goodIn_r _ [57, 14, 16, 22, 23, 38, 10, 11, 12, 13, 15, 17, 27, 28, 29, 53, 19, 20, 21, 24, 25, 26, 30, 31, 32, 33, 83, 84, 85, 86, 87, 88, 89, 90] rfl (by decide +kernel)
set_option maxRecDepth 20000 in
theorem gX7_readPan_X10_expectNumber : GoodIn wsX7_readPan (wsV RX7 54 RX10 yX10_expectNumber wsX10_expectNumber) := goodIn_app (goodIn_of _ (by decide +kernel)) ggX7_readPan_X10_expectNumber
set_option maxRecDepth 20000 in
theorem ggX7_readPan_X10_expectSemicolon : GoodIn wsX7_readPan wsX10_expectSemicolon := goodIn_r _ [61, 14, 38, 10, 11, 12, 13, 15, 16, 17, 53, 19, 20, 21, 22, 23, 24, 25, 26, 27, 28, 29, 30, 31, 32, 33, 83, 84, 85, 86, 87, 88, 89, 90] rfl (by decide +kernel)
set_option maxRecDepth 20000 in
theorem gX7_readPan_X10_expectSemicolon : GoodIn wsX7_readPan (wsV RX7 71 RX10 yX10_expectSemicolon wsX10_expectSemicolon) := goodIn_app (goodIn_of _ (by decide +kernel)) ggX7_readPan_X10_expectSemicolon
theorem dX7_readPan_0 : decode cX7_readPan 0 = .ok (.aload_n 1, 1) := by decide +kernel
theorem dX7_readPan_1 : decode cX7_readPan 1 = .ok (.getfield 74, 3) := by decide +kernel
theorem dX7_readPan_4 : decode cX7_readPan 4 = .ok (.getfield 78, 3) := by decide +kernel
theorem dX7_readPan_7 : decode cX7_readPan 7 = .ok (.istore_n 2, 1) := by decide +kernel
theorem dX7_readPan_8 : decode cX7_readPan 8 = .ok (.aload_n 1, 1) := by decide +kernel
theorem dX7_readPan_9 : decode cX7_readPan 9 = .ok (.getfield 74, 3) := by decide +kernel
theorem dX7_readPan_12 : decode cX7_readPan 12 = .ok (.invokevirtual 83, 3) := by decide +kernel
theorem dX7_readPan_15 : decode cX7_readPan 15 = .ok (.ifCond .eq 12, 3) := by decide +kernel
theorem dX7_readPan_18 : decode cX7_readPan 18 = .ok (.aload_n 0, 1) := by decide +kernel
theorem dX7_readPan_19 : decode cX7_readPan 19 = .ok (.getfield 9, 3) := by decide +kernel
theorem dX7_readPan_22 : decode cX7_readPan 22 = .ok (.iconst 5, 1) := by decide +kernel
theorem dX7_readPan_23 : decode cX7_readPan 23 = .ok (.invokevirtual 50, 3) := by decide +kernel
theorem dX7_readPan_26 : decode cX7_readPan 26 = .ok (.return_, 1) := by decide +kernel
theorem dX7_readPan_27 : decode cX7_readPan 27 = .ok (.aload_n 0, 1) := by decide +kernel
theorem dX7_readPan_28 : decode cX7_readPan 28 = .ok (.getfield 9, 3) := by decide +kernel
theorem dX7_readPan_31 : decode cX7_readPan 31 = .ok (.invokevirtual 86, 3) := by decide +kernel
theorem dX7_readPan_34 : decode cX7_readPan 34 = .ok (.aload_n 0, 1) := by decide +kernel
theorem dX7_readPan_35 : decode cX7_readPan 35 = .ok (.getfield 9, 3) := by decide +kernel
theorem dX7_readPan_38 : decode cX7_readPan 38 = .ok (.aload_n 1, 1) := by decide +kernel
theorem dX7_readPan_39 : decode cX7_readPan 39 = .ok (.getfield 74, 3) := by decide +kernel
theorem dX7_readPan_42 : decode cX7_readPan 42 = .ok (.invokevirtual 89, 3) := by decide +kernel
theorem dX7_readPan_45 : decode cX7_readPan 45 = .ok (.aload_n 1, 1) := by decide +kernel
theorem dX7_readPan_46 : decode cX7_readPan 46 = .ok (.getfield 93, 3) := by decide +kernel
theorem dX7_readPan_49 : decode cX7_readPan 49 = .ok (.iload_n 2, 1) := by decide +kernel
theorem dX7_readPan_50 : decode cX7_readPan 50 = .ok (.aload_n 0, 1) := by decide +kernel
theorem dX7_readPan_51 : decode cX7_readPan 51 = .ok (.getfield 9, 3) := by decide +kernel
theorem dX7_readPan_54 : decode cX7_readPan 54 = .ok (.iconst 1, 1) := by decide +kernel
theorem dX7_readPan_55 : decode cX7_readPan 55 = .ok (.iconst 5, 1) := by decide +kernel
theorem dX7_readPan_56 : decode cX7_readPan 56 = .ok (.invokevirtual 54, 3) := by decide +kernel
theorem dX7_readPan_59 : decode cX7_readPan 59 = .ok (.iastore, 1) := by decide +kernel
theorem dX7_readPan_60 : decode cX7_readPan 60 = .ok (.aload_n 0, 1) := by decide +kernel
theorem dX7_readPan_61 : decode cX7_readPan 61 = .ok (.getfield 9, 3) := by decide +kernel
theorem dX7_readPan_64 : decode cX7_readPan 64 = .ok (.invokevirtual 71, 3) := by decide +kernel
theorem dX7_readPan_67 : decode cX7_readPan 67 = .ok (.aload_n 1, 1) := by decide +kernel
theorem dX7_readPan_68 : decode cX7_readPan 68 = .ok (.getfield 74, 3) := by decide +kernel
theorem dX7_readPan_71 : decode cX7_readPan 71 = .ok (.dup, 1) := by decide +kernel
theorem dX7_readPan_72 : decode cX7_readPan 72 = .ok (.getfield 78, 3) := by decide +kernel
theorem dX7_readPan_75 : decode cX7_readPan 75 = .ok (.iconst 1, 1) := by decide +kernel
theorem dX7_readPan_76 : decode cX7_readPan 76 = .ok (.iadd, 1) := by decide +kernel
theorem dX7_readPan_77 : decode cX7_readPan 77 = .ok (.putfield 78, 3) := by decide +kernel
theorem dX7_readPan_80 : decode cX7_readPan 80 = .ok (.return_, 1) := by decide +kernel
set_option maxRecDepth 20000 in
theorem ggX7_readStep_X10_isWord : GoodIn wsX7_readStep wsX10_isWord := goodIn_r _ [6, 7, 8, 9, 10, 11, 12, 13, 14, 15, 16, 17, 18, 19, 20, 21, 22, 23, 24, 25, 26, 27, 28, 29, 30, 31, 32, 33, 34, 35, 36, 37, 38, 39, 40, 41, 42, 43, 44, 45, 46, 47, 48, 49, 50, 51, 52, 53, 54, 55, 56, 57, 58, 59, 169, 170, 171, 172, 173, 174, 175, 176, 177, 178, 179, 180] rfl (by decide +kernel)
set_option maxRecDepth 20000 in
theorem gX7_readStep_X10_isWord : GoodIn wsX7_readStep (wsV RX7 31 RX10 yX10_isWord wsX10_isWord) := goodIn_app (goodIn_of _ (by decide +kernel)) ggX7_readStep_X10_isWord
set_option maxRecDepth 20000 in
theorem ggX7_readStep_X10_fail : GoodIn wsX7_readStep wsX10_fail := goodIn_r _ [63, 7, 64, 9, 65, 169, 170, 171, 172, 173, 174] rfl (by decide +kernel)
set_option maxRecDepth 20000 in
theorem gX7_readStep_X10_fail : GoodIn wsX7_readStep (wsV RX7 50 RX10 yX10_fail wsX10_fail) := goodIn_app (goodIn_of _ (by decide +kernel)) ggX7_readStep_X10_fail
set_option maxRecDepth 20000 in
theorem ggX7_readStep_X4_isFull : GoodIn wsX7_readStep wsX4_isFull := goodIn_r _ [70, 71, 72, 165, 166, 167] rfl (by decide +kernel)
set_option maxRecDepth 20000 in
theorem gX7_readStep_X4_isFull : GoodIn wsX7_readStep (wsV RX7 83 RX4 yX4_isFull wsX4_isFull) := goodIn_app (goodIn_of _ (by decide +kernel)) ggX7_readStep_X4_isFull
set_option maxRecDepth 20000 in
theorem ggX7_readStep_X10_advance : GoodIn wsX7_readStep wsX10_advance := goodIn_r _ [76, 8, 9, 10, 7, 77, 78, 5, 79, 80, 81, 82, 83, 84, 85, 86, 169, 170, 171, 172, 173, 174, 175, 176] rfl (by decide +kernel)
set_option maxRecDepth 20000 in
theorem gX7_readStep_X10_advance : GoodIn wsX7_readStep (wsV RX7 86 RX10 yX10_advance wsX10_advance) := goodIn_app (goodIn_of _ (by decide +kernel)) ggX7_readStep_X10_advance
set_option maxRecDepth 20000 in
theorem ggX7_readStep_X10_expectNewName : GoodIn wsX7_readStep wsX10_expectNewName := goodIn_r _ [90, 7, 8, 9, 10, 91, 61, 62, 5, 63, 64, 65, 92, 93, 94, 69, 95, 71, 72, 96, 97, 98, 99, 100, 101, 102, 103, 104, 105, 67, 68, 70, 106, 74, 75, 76, 77, 78, 79, 80, 81, 82, 83, 84, 85, 86, 169, 170, 171, 172, 173, 174, 165, 166, 167, 175, 176] rfl (by decide +kernel)
set_option maxRecDepth 20000 in
theorem gX7_readStep_X10_expectNewName : GoodIn wsX7_readStep (wsV RX7 89 RX10 yX10_expectNewName wsX10_expectNewName) := goodIn_app (goodIn_of _ (by decide +kernel)) ggX7_readStep_X10_expectNewName
set_option maxRecDepth 20000 in
theorem ggX7_readStep_X10_expectNumber : GoodIn wsX7_readStep wsX10_expectNumber := goodIn_r _ [110, 7, 9, 8, 10, 91, 61, 62, 5, 63, 64, 65, 80, 81, 82, 106, 74, 75, 76, 77, 78, 79, 83, 84, 85, 86, 169, 170, 171, 172, 173, 174, 175, 176] rfl (by decide +kernel)
set_option maxRecDepth 20000 in
theorem gX7_readStep_X10_expectNumber : GoodIn wsX7_readStep (wsV RX7 54 RX10 yX10_expectNumber wsX10_expectNumber) := goodIn_app (goodIn_of _ (by decide +kernel)) ggX7_readStep_X10_expectNumber
set_option maxRecDepth 20000 in
theorem ggX7_readStep_X7_readPanOf : GoodIn wsX7_readStep wsX7_readPanOf := goodIn_r _ [115, 1, 116, 117, 118, 5, 119, 120, 3, 4, 6, 7, 8, 9, 10, 11, 12, 13, 14, 15, 16, 17, 18, 19, 20, 21, 22, 23, 24, 25, 26, 27, 28, 29, 30, 31, 32, 33, 34, 35, 36, 37, 38, 39, 40, 41, 42, 43, 44, 45, 46, 47, 48, 49, 50, 51, 52, 53, 54, 55, 56, 57, 58, 59, 106, 74, 75, 76, 77, 78, 79, 80, 81, 82, 83, 84, 85, 86, 121, 122, 123, 124, 91, 61, 62, 63, 64, 65, 92, 93, 94, 69, 95, 71, 72, 96, 97, 98, 99, 100, 73, 148, 149, 150, 151, 152, 153, 154, 155, 156, 157, 158, 159, 160, 161, 162, 163, 164, 168, 169, 170, 171, 172, 173, 174, 175, 176, 177, 178, 179, 180, 165, 166, 167] rfl (by decide +kernel)
set_option maxRecDepth 20000 in
theorem gX7_readStep_X7_readPanOf : GoodIn wsX7_readStep (wsV RX7 108 RX7 yX7_readPanOf wsX7_readPanOf) := goodIn_app (goodIn_of _ (by decide +kernel)) ggX7_readStep_X7_readPanOf
set_option maxRecDepth 20000 in
theorem ggX7_readStep_X10_accept : GoodIn wsX7_readStep wsX10_accept := goodIn_r _ [119, 120, 3, 4, 5, 6, 7, 8, 9, 10, 11, 12, 13, 14, 15, 16, 17, 18, 19, 20, 21, 22, 23, 24, 25, 26, 27, 28, 29, 30, 31, 32, 33, 34, 35, 36, 37, 38, 39, 40, 41, 42, 43, 44, 45, 46, 47, 48, 49, 50, 51, 52, 53, 54, 55, 56, 57, 58, 59, 106, 74, 75, 76, 77, 78, 79, 80, 81, 82, 83, 84, 85, 86, 169, 170, 171, 172, 173, 174, 175, 176, 177, 178, 179, 180] rfl (by decide +kernel)
set_option maxRecDepth 20000 in
theorem gX7_readStep_X10_accept : GoodIn wsX7_readStep (wsV RX7 47 RX10 yX10_accept wsX10_accept) := goodIn_app (goodIn_of _ (by decide +kernel)) ggX7_readStep_X10_accept
set_option maxRecDepth 20000 in
theorem ggX7_readStep_X7_readPredecessors : GoodIn wsX7_readStep wsX7_readPredecessors := goodIn_r _ [128, 1, 129, 130, 131, 5, 132, 7, 121, 122, 123, 124, 10, 9, 8, 91, 61, 62, 63, 64, 65, 92, 93, 94, 69, 95, 71, 72, 96, 97, 98, 99, 100, 133, 81, 134, 60, 135, 136, 137, 138, 139, 140, 141, 142, 143, 73, 74, 75, 76, 77, 78, 79, 80, 82, 83, 84, 85, 86, 168, 148, 149, 150, 151, 152, 153, 154, 155, 156, 157, 158, 159, 160, 161, 162, 163, 164, 169, 170, 171, 172, 173, 174, 165, 166, 167, 175, 176] rfl (by decide +kernel)
set_option maxRecDepth 20000 in
theorem gX7_readStep_X7_readPredecessors : GoodIn wsX7_readStep (wsV RX7 122 RX7 yX7_readPredecessors wsX7_readPredecessors) := goodIn_app (goodIn_of _ (by decide +kernel)) ggX7_readStep_X7_readPredecessors
set_option maxRecDepth 20000 in
theorem ggX7_readStep_X10_expectSemicolon : GoodIn wsX7_readStep wsX10_expectSemicolon := goodIn_r _ [147, 7, 91, 61, 62, 5, 63, 64, 9, 65, 106, 74, 75, 76, 8, 10, 77, 78, 79, 80, 81, 82, 83, 84, 85, 86, 169, 170, 171, 172, 173, 174, 175, 176] rfl (by decide +kernel)
set_option maxRecDepth 20000 in
theorem gX7_readStep_X10_expectSemicolon : GoodIn wsX7_readStep (wsV RX7 71 RX10 yX10_expectSemicolon wsX10_expectSemicolon) := goodIn_app (goodIn_of _ (by decide +kernel)) ggX7_readStep_X10_expectSemicolon
theorem dX7_readStep_0 : decode cX7_readStep 0 = .ok (.aload_n 1, 1) := by decide +kernel
theorem dX7_readStep_1 : decode cX7_readStep 1 = .ok (.getfield 97, 3) := by decide +kernel
theorem dX7_readStep_4 : decode cX7_readStep 4 = .ok (.getfield 78, 3) := by decide +kernel
theorem dX7_readStep_7 : decode cX7_readStep 7 = .ok (.istore_n 2, 1) := by decide +kernel
theorem dX7_readStep_8 : decode cX7_readStep 8 = .ok (.aload_n 0, 1) := by decide +kernel
theorem dX7_readStep_9 : decode cX7_readStep 9 = .ok (.getfield 9, 3) := by decide +kernel
theorem dX7_readStep_12 : decode cX7_readStep 12 = .ok (.ldc 100, 2) := by decide +kernel
theorem dX7_readStep_14 : decode cX7_readStep 14 = .ok (.invokevirtual 31, 3) := by decide +kernel
theorem dX7_readStep_17 : decode cX7_readStep 17 = .ok (.ifCond .ne 12, 3) := by decide +kernel
theorem dX7_readStep_20 : decode cX7_readStep 20 = .ok (.aload_n 0, 1) := by decide +kernel
theorem dX7_readStep_21 : decode cX7_readStep 21 = .ok (.getfield 9, 3) := by decide +kernel
theorem dX7_readStep_24 : decode cX7_readStep 24 = .ok (.iconst 1, 1) := by decide +kernel
theorem dX7_readStep_25 : decode cX7_readStep 25 = .ok (.invokevirtual 50, 3) := by decide +kernel
theorem dX7_readStep_28 : decode cX7_readStep 28 = .ok (.return_, 1) := by decide +kernel
theorem dX7_readStep_29 : decode cX7_readStep 29 = .ok (.aload_n 1, 1) := by decide +kernel
theorem dX7_readStep_30 : decode cX7_readStep 30 = .ok (.getfield 97, 3) := by decide +kernel
theorem dX7_readStep_33 : decode cX7_readStep 33 = .ok (.invokevirtual 83, 3) := by decide +kernel
theorem dX7_readStep_36 : decode cX7_readStep 36 = .ok (.ifCond .eq 12, 3) := by decide +kernel
theorem dX7_readStep_39 : decode cX7_readStep 39 = .ok (.aload_n 0, 1) := by decide +kernel
theorem dX7_readStep_40 : decode cX7_readStep 40 = .ok (.getfield 9, 3) := by decide +kernel
theorem dX7_readStep_43 : decode cX7_readStep 43 = .ok (.iconst 5, 1) := by decide +kernel
theorem dX7_readStep_44 : decode cX7_readStep 44 = .ok (.invokevirtual 50, 3) := by decide +kernel
theorem dX7_readStep_47 : decode cX7_readStep 47 = .ok (.return_, 1) := by decide +kernel
theorem dX7_readStep_48 : decode cX7_readStep 48 = .ok (.aload_n 0, 1) := by decide +kernel
theorem dX7_readStep_49 : decode cX7_readStep 49 = .ok (.getfield 9, 3) := by decide +kernel
theorem dX7_readStep_52 : decode cX7_readStep 52 = .ok (.invokevirtual 86, 3) := by decide +kernel
theorem dX7_readStep_55 : decode cX7_readStep 55 = .ok (.aload_n 0, 1) := by decide +kernel
theorem dX7_readStep_56 : decode cX7_readStep 56 = .ok (.getfield 9, 3) := by decide +kernel
theorem dX7_readStep_59 : decode cX7_readStep 59 = .ok (.aload_n 1, 1) := by decide +kernel
theorem dX7_readStep_60 : decode cX7_readStep 60 = .ok (.getfield 97, 3) := by decide +kernel
theorem dX7_readStep_63 : decode cX7_readStep 63 = .ok (.invokevirtual 89, 3) := by decide +kernel
theorem dX7_readStep_66 : decode cX7_readStep 66 = .ok (.aload_n 1, 1) := by decide +kernel
theorem dX7_readStep_67 : decode cX7_readStep 67 = .ok (.getfield 102, 3) := by decide +kernel
theorem dX7_readStep_70 : decode cX7_readStep 70 = .ok (.iload_n 2, 1) := by decide +kernel
theorem dX7_readStep_71 : decode cX7_readStep 71 = .ok (.aload_n 0, 1) := by decide +kernel
theorem dX7_readStep_72 : decode cX7_readStep 72 = .ok (.getfield 9, 3) := by decide +kernel
theorem dX7_readStep_75 : decode cX7_readStep 75 = .ok (.iconst 1, 1) := by decide +kernel
theorem dX7_readStep_76 : decode cX7_readStep 76 = .ok (.bipush 60, 2) := by decide +kernel
theorem dX7_readStep_78 : decode cX7_readStep 78 = .ok (.invokevirtual 54, 3) := by decide +kernel
theorem dX7_readStep_81 : decode cX7_readStep 81 = .ok (.iastore, 1) := by decide +kernel
