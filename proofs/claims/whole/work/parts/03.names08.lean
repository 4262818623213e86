theorem dX12_dependsOn_35 : decode cX12_dependsOn 35 = .ok (.aload_n 0, 1) := by decide +kernel
theorem dX12_dependsOn_36 : decode cX12_dependsOn 36 = .ok (.getfield 13, 3) := by decide +kernel
theorem dX12_dependsOn_39 : decode cX12_dependsOn 39 = .ok (.bipush 13, 2) := by decide +kernel
theorem dX12_dependsOn_41 : decode cX12_dependsOn 41 = .ok (.iaload, 1) := by decide +kernel
theorem dX12_dependsOn_42 : decode cX12_dependsOn 42 = .ok (.if_icmp .ge 16, 3) := by decide +kernel
theorem dX12_dependsOn_45 : decode cX12_dependsOn 45 = .ok (.aload_n 0, 1) := by decide +kernel
theorem dX12_dependsOn_46 : decode cX12_dependsOn 46 = .ok (.getfield 48, 3) := by decide +kernel
theorem dX12_dependsOn_49 : decode cX12_dependsOn 49 = .ok (.iload_n 3, 1) := by decide +kernel
theorem dX12_dependsOn_50 : decode cX12_dependsOn 50 = .ok (.iconst 0, 1) := by decide +kernel
theorem dX12_dependsOn_51 : decode cX12_dependsOn 51 = .ok (.bastore, 1) := by decide +kernel
theorem dX12_dependsOn_52 : decode cX12_dependsOn 52 = .ok (.iinc 3 1, 3) := by decide +kernel
theorem dX12_dependsOn_55 : decode cX12_dependsOn 55 = .ok (.goto (-21), 3) := by decide +kernel
theorem dX12_dependsOn_58 : decode cX12_dependsOn 58 = .ok (.aload_n 0, 1) := by decide +kernel
theorem dX12_dependsOn_59 : decode cX12_dependsOn 59 = .ok (.getfield 48, 3) := by decide +kernel
theorem dX12_dependsOn_62 : decode cX12_dependsOn 62 = .ok (.iload_n 1, 1) := by decide +kernel
theorem dX12_dependsOn_63 : decode cX12_dependsOn 63 = .ok (.iconst 1, 1) := by decide +kernel
theorem dX12_dependsOn_64 : decode cX12_dependsOn 64 = .ok (.bastore, 1) := by decide +kernel
theorem dX12_dependsOn_65 : decode cX12_dependsOn 65 = .ok (.iload_n 1, 1) := by decide +kernel
theorem dX12_dependsOn_66 : decode cX12_dependsOn 66 = .ok (.istore_n 3, 1) := by decide +kernel
theorem dX12_dependsOn_67 : decode cX12_dependsOn 67 = .ok (.iload_n 3, 1) := by decide +kernel
theorem dX12_dependsOn_68 : decode cX12_dependsOn 68 = .ok (.ifCond .lt 55, 3) := by decide +kernel
theorem dX12_dependsOn_71 : decode cX12_dependsOn 71 = .ok (.iconst 0, 1) := by decide +kernel
theorem dX12_dependsOn_72 : decode cX12_dependsOn 72 = .ok (.istore 4, 2) := by decide +kernel
theorem dX12_dependsOn_74 : decode cX12_dependsOn 74 = .ok (.aload_n 0, 1) := by decide +kernel
theorem dX12_dependsOn_75 : decode cX12_dependsOn 75 = .ok (.getfield 48, 3) := by decide +kernel
theorem dX12_dependsOn_78 : decode cX12_dependsOn 78 = .ok (.iload_n 3, 1) := by decide +kernel
theorem dX12_dependsOn_79 : decode cX12_dependsOn 79 = .ok (.baload, 1) := by decide +kernel
theorem dX12_dependsOn_80 : decode cX12_dependsOn 80 = .ok (.ifCond .eq 37, 3) := by decide +kernel
theorem dX12_dependsOn_83 : decode cX12_dependsOn 83 = .ok (.iload 4, 2) := by decide +kernel
theorem dX12_dependsOn_85 : decode cX12_dependsOn 85 = .ok (.aload_n 0, 1) := by decide +kernel
theorem dX12_dependsOn_86 : decode cX12_dependsOn 86 = .ok (.iload_n 3, 1) := by decide +kernel
theorem dX12_dependsOn_87 : decode cX12_dependsOn 87 = .ok (.bipush 12, 2) := by decide +kernel
theorem dX12_dependsOn_89 : decode cX12_dependsOn 89 = .ok (.invokevirtual 95, 3) := by decide +kernel
theorem dX12_dependsOn_92 : decode cX12_dependsOn 92 = .ok (.if_icmp .ge 25, 3) := by decide +kernel
theorem dX12_dependsOn_95 : decode cX12_dependsOn 95 = .ok (.aload_n 0, 1) := by decide +kernel
theorem dX12_dependsOn_96 : decode cX12_dependsOn 96 = .ok (.getfield 48, 3) := by decide +kernel
theorem dX12_dependsOn_99 : decode cX12_dependsOn 99 = .ok (.aload_n 0, 1) := by decide +kernel
theorem dX12_dependsOn_100 : decode cX12_dependsOn 100 = .ok (.iload_n 3, 1) := by decide +kernel
theorem dX12_dependsOn_101 : decode cX12_dependsOn 101 = .ok (.bipush 13, 2) := by decide +kernel
theorem dX12_dependsOn_103 : decode cX12_dependsOn 103 = .ok (.iload 4, 2) := by decide +kernel
theorem dX12_dependsOn_105 : decode cX12_dependsOn 105 = .ok (.iadd, 1) := by decide +kernel
theorem dX12_dependsOn_106 : decode cX12_dependsOn 106 = .ok (.invokevirtual 95, 3) := by decide +kernel
theorem dX12_dependsOn_109 : decode cX12_dependsOn 109 = .ok (.iconst 1, 1) := by decide +kernel
theorem dX12_dependsOn_110 : decode cX12_dependsOn 110 = .ok (.bastore, 1) := by decide +kernel
theorem dX12_dependsOn_111 : decode cX12_dependsOn 111 = .ok (.iinc 4 1, 3) := by decide +kernel
theorem dX12_dependsOn_114 : decode cX12_dependsOn 114 = .ok (.goto (-40), 3) := by decide +kernel
theorem dX12_dependsOn_117 : decode cX12_dependsOn 117 = .ok (.iinc 3 (-1), 3) := by decide +kernel
theorem dX12_dependsOn_120 : decode cX12_dependsOn 120 = .ok (.goto (-53), 3) := by decide +kernel
theorem dX12_dependsOn_123 : decode cX12_dependsOn 123 = .ok (.iload_n 1, 1) := by decide +kernel
theorem dX12_dependsOn_124 : decode cX12_dependsOn 124 = .ok (.iload_n 2, 1) := by decide +kernel
theorem dX12_dependsOn_125 : decode cX12_dependsOn 125 = .ok (.if_icmp .eq 16, 3) := by decide +kernel
theorem dX12_dependsOn_128 : decode cX12_dependsOn 128 = .ok (.aload_n 0, 1) := by decide +kernel
theorem dX12_dependsOn_129 : decode cX12_dependsOn 129 = .ok (.getfield 48, 3) := by decide +kernel
theorem dX12_dependsOn_132 : decode cX12_dependsOn 132 = .ok (.iload_n 2, 1) := by decide +kernel
theorem dX12_dependsOn_133 : decode cX12_dependsOn 133 = .ok (.baload, 1) := by decide +kernel
theorem dX12_dependsOn_134 : decode cX12_dependsOn 134 = .ok (.ifCond .eq 7, 3) := by decide +kernel
theorem dX12_dependsOn_137 : decode cX12_dependsOn 137 = .ok (.iconst 1, 1) := by decide +kernel
theorem dX12_dependsOn_138 : decode cX12_dependsOn 138 = .ok (.goto 4, 3) := by decide +kernel
theorem dX12_dependsOn_141 : decode cX12_dependsOn 141 = .ok (.iconst 0, 1) := by decide +kernel
theorem dX12_dependsOn_142 : decode cX12_dependsOn 142 = .ok (.ireturn, 1) := by decide +kernel
set_option maxRecDepth 20000 in
theorem ggX12_pathLength_X12_isStep : GoodIn wsX12_pathLength wsX12_isStep := goodIn_r _ [6, 7, 8, 9, 5, 10, 28, 29, 30, 31, 32, 33, 34, 35, 36, 37, 38, 39, 40, 41, 42, 43, 44, 45, 46] rfl (by decide +kernel)
set_option maxRecDepth 20000 in
theorem gX12_pathLength_X12_isStep : GoodIn wsX12_pathLength (wsV RX12 304 RX12 yX12_isStep wsX12_isStep) := goodIn_app (goodIn_of _ (by decide +kernel)) ggX12_pathLength_X12_isStep
set_option maxRecDepth 20000 in
theorem ggX12_pathLength_X12_fails : GoodIn wsX12_pathLength wsX12_fails := goodIn_r _ [14, 15, 28, 29, 30, 31, 32, 33, 34, 35, 36, 37, 38, 39, 40, 41, 42, 43, 44, 45, 46] rfl (by decide +kernel)
set_option maxRecDepth 20000 in
theorem gX12_pathLength_X12_fails : GoodIn wsX12_pathLength (wsV RX12 167 RX12 yX12_fails wsX12_fails) := goodIn_app (goodIn_of _ (by decide +kernel)) ggX12_pathLength_X12_fails
set_option maxRecDepth 20000 in
theorem ggX12_pathLength_X12_computePaths : GoodIn wsX12_pathLength wsX12_computePaths := goodIn_r _ [19, 7, 1, 20, 21, 22, 5, 23, 24, 25, 26, 27, 28, 29, 30, 31, 32, 33, 34, 35, 36, 37, 38, 39, 40, 41, 42, 43, 44, 45, 46] rfl (by decide +kernel)
set_option maxRecDepth 20000 in
theorem gX12_pathLength_X12_computePaths : GoodIn wsX12_pathLength (wsV RX12 139 RX12 yX12_computePaths wsX12_computePaths) := goodIn_app (goodIn_of _ (by decide +kernel)) ggX12_pathLength_X12_computePaths
theorem dX12_pathLength_0 : decode cX12_pathLength 0 = .ok (.aload_n 0, 1) := by decide +kernel
theorem dX12_pathLength_1 : decode cX12_pathLength 1 = .ok (.aload_n 0, 1) := by decide +kernel
theorem dX12_pathLength_2 : decode cX12_pathLength 2 = .ok (.iload_n 1, 1) := by decide +kernel
theorem dX12_pathLength_3 : decode cX12_pathLength 3 = .ok (.invokevirtual 304, 3) := by decide +kernel
theorem dX12_pathLength_6 : decode cX12_pathLength 6 = .ok (.ifCond .ne 7, 3) := by decide +kernel
theorem dX12_pathLength_9 : decode cX12_pathLength 9 = .ok (.iconst 1, 1) := by decide +kernel
theorem dX12_pathLength_10 : decode cX12_pathLength 10 = .ok (.goto 4, 3) := by decide +kernel
theorem dX12_pathLength_13 : decode cX12_pathLength 13 = .ok (.iconst 0, 1) := by decide +kernel
theorem dX12_pathLength_14 : decode cX12_pathLength 14 = .ok (.iconst 0, 1) := by decide +kernel
theorem dX12_pathLength_15 : decode cX12_pathLength 15 = .ok (.iconst 0, 1) := by decide +kernel
theorem dX12_pathLength_16 : decode cX12_pathLength 16 = .ok (.invokevirtual 167, 3) := by decide +kernel
theorem dX12_pathLength_19 : decode cX12_pathLength 19 = .ok (.ifCond .eq 5, 3) := by decide +kernel
theorem dX12_pathLength_22 : decode cX12_pathLength 22 = .ok (.iconst 0, 1) := by decide +kernel
theorem dX12_pathLength_23 : decode cX12_pathLength 23 = .ok (.ireturn, 1) := by decide +kernel
theorem dX12_pathLength_24 : decode cX12_pathLength 24 = .ok (.aload_n 0, 1) := by decide +kernel
theorem dX12_pathLength_25 : decode cX12_pathLength 25 = .ok (.invokevirtual 139, 3) := by decide +kernel
theorem dX12_pathLength_28 : decode cX12_pathLength 28 = .ok (.aload_n 0, 1) := by decide +kernel
theorem dX12_pathLength_29 : decode cX12_pathLength 29 = .ok (.getfield 42, 3) := by decide +kernel
theorem dX12_pathLength_32 : decode cX12_pathLength 32 = .ok (.iload_n 1, 1) := by decide +kernel
theorem dX12_pathLength_33 : decode cX12_pathLength 33 = .ok (.iaload, 1) := by decide +kernel
theorem dX12_pathLength_34 : decode cX12_pathLength 34 = .ok (.ireturn, 1) := by decide +kernel
set_option maxRecDepth 20000 in
theorem ggX12_nameLetter_X12_isStep : GoodIn wsX12_nameLetter wsX12_isStep := goodIn_r _ [5, 6, 7, 8, 4, 9, 19, 20, 21, 22, 23, 24, 25, 26, 27, 28, 29, 30, 31, 32, 33, 34, 35, 36, 37] rfl (by decide +kernel)
set_option maxRecDepth 20000 in
theorem gX12_nameLetter_X12_isStep : GoodIn wsX12_nameLetter (wsV RX12 304 RX12 yX12_isStep wsX12_isStep) := goodIn_app (goodIn_of _ (by decide +kernel)) ggX12_nameLetter_X12_isStep
set_option maxRecDepth 20000 in
theorem ggX12_nameLetter_X12_of : GoodIn wsX12_nameLetter wsX12_of := goodIn_r _ [13, 6, 19, 20, 21, 22, 23, 24, 25, 26, 27, 28, 29, 30, 31, 32, 33, 34, 35, 36, 37] rfl (by decide +kernel)
set_option maxRecDepth 20000 in
theorem gX12_nameLetter_X12_of : GoodIn wsX12_nameLetter (wsV RX12 95 RX12 yX12_of wsX12_of) := goodIn_app (goodIn_of _ (by decide +kernel)) ggX12_nameLetter_X12_of
set_option maxRecDepth 20000 in
theorem ggX12_nameLetter_X12_in : GoodIn wsX12_nameLetter wsX12_in := goodIn_r _ [9] rfl (by decide +kernel)
set_option maxRecDepth 20000 in
theorem gX12_nameLetter_X12_in : GoodIn wsX12_nameLetter (va_wsS RX12 87 yX12_in wsX12_in) := goodIn_app (goodIn_of _ (by decide +kernel)) ggX12_nameLetter_X12_in
set_option maxRecDepth 20000 in
theorem ggX12_nameLetter_X12_fails : GoodIn wsX12_nameLetter wsX12_fails := goodIn_r _ [17, 18, 19, 20, 21, 22, 23, 24, 25, 26, 27, 28, 29, 30, 31, 32, 33, 34, 35, 36, 37] rfl (by decide +kernel)
set_option maxRecDepth 20000 in
theorem gX12_nameLetter_X12_fails : GoodIn wsX12_nameLetter (wsV RX12 167 RX12 yX12_fails wsX12_fails) := goodIn_app (goodIn_of _ (by decide +kernel)) ggX12_nameLetter_X12_fails
theorem dX12_nameLetter_0 : decode cX12_nameLetter 0 = .ok (.aload_n 0, 1) := by decide +kernel
theorem dX12_nameLetter_1 : decode cX12_nameLetter 1 = .ok (.aload_n 0, 1) := by decide +kernel
theorem dX12_nameLetter_2 : decode cX12_nameLetter 2 = .ok (.iload_n 1, 1) := by decide +kernel
theorem dX12_nameLetter_3 : decode cX12_nameLetter 3 = .ok (.invokevirtual 304, 3) := by decide +kernel
theorem dX12_nameLetter_6 : decode cX12_nameLetter 6 = .ok (.ifCond .eq 31, 3) := by decide +kernel
theorem dX12_nameLetter_9 : decode cX12_nameLetter 9 = .ok (.iload_n 2, 1) := by decide +kernel
theorem dX12_nameLetter_10 : decode cX12_nameLetter 10 = .ok (.iconst 0, 1) := by decide +kernel
theorem dX12_nameLetter_11 : decode cX12_nameLetter 11 = .ok (.aload_n 0, 1) := by decide +kernel
theorem dX12_nameLetter_12 : decode cX12_nameLetter 12 = .ok (.aload_n 0, 1) := by decide +kernel
theorem dX12_nameLetter_13 : decode cX12_nameLetter 13 = .ok (.iload_n 1, 1) := by decide +kernel
theorem dX12_nameLetter_14 : decode cX12_nameLetter 14 = .ok (.invokevirtual 304, 3) := by decide +kernel
theorem dX12_nameLetter_17 : decode cX12_nameLetter 17 = .ok (.ifCond .eq 7, 3) := by decide +kernel
theorem dX12_nameLetter_20 : decode cX12_nameLetter 20 = .ok (.iload_n 1, 1) := by decide +kernel
theorem dX12_nameLetter_21 : decode cX12_nameLetter 21 = .ok (.goto 4, 3) := by decide +kernel
theorem dX12_nameLetter_24 : decode cX12_nameLetter 24 = .ok (.iconst 0, 1) := by decide +kernel
theorem dX12_nameLetter_25 : decode cX12_nameLetter 25 = .ok (.iconst 0, 1) := by decide +kernel
theorem dX12_nameLetter_26 : decode cX12_nameLetter 26 = .ok (.invokevirtual 95, 3) := by decide +kernel
theorem dX12_nameLetter_29 : decode cX12_nameLetter 29 = .ok (.iconst 1, 1) := by decide +kernel
theorem dX12_nameLetter_30 : decode cX12_nameLetter 30 = .ok (.isub, 1) := by decide +kernel
theorem dX12_nameLetter_31 : decode cX12_nameLetter 31 = .ok (.invokestatic 87, 3) := by decide +kernel
theorem dX12_nameLetter_34 : decode cX12_nameLetter 34 = .ok (.ifCond .ne 7, 3) := by decide +kernel
theorem dX12_nameLetter_37 : decode cX12_nameLetter 37 = .ok (.iconst 1, 1) := by decide +kernel
theorem dX12_nameLetter_38 : decode cX12_nameLetter 38 = .ok (.goto 4, 3) := by decide +kernel
theorem dX12_nameLetter_41 : decode cX12_nameLetter 41 = .ok (.iconst 0, 1) := by decide +kernel
theorem dX12_nameLetter_42 : decode cX12_nameLetter 42 = .ok (.iconst 0, 1) := by decide +kernel
theorem dX12_nameLetter_43 : decode cX12_nameLetter 43 = .ok (.iconst 0, 1) := by decide +kernel
theorem dX12_nameLetter_44 : decode cX12_nameLetter 44 = .ok (.invokevirtual 167, 3) := by decide +kernel
theorem dX12_nameLetter_47 : decode cX12_nameLetter 47 = .ok (.ifCond .eq 5, 3) := by decide +kernel
theorem dX12_nameLetter_50 : decode cX12_nameLetter 50 = .ok (.iconst 0, 1) := by decide +kernel
theorem dX12_nameLetter_51 : decode cX12_nameLetter 51 = .ok (.ireturn, 1) := by decide +kernel
theorem dX12_nameLetter_52 : decode cX12_nameLetter 52 = .ok (.aload_n 0, 1) := by decide +kernel
theorem dX12_nameLetter_53 : decode cX12_nameLetter 53 = .ok (.iload_n 1, 1) := by decide +kernel
theorem dX12_nameLetter_54 : decode cX12_nameLetter 54 = .ok (.iconst 1, 1) := by decide +kernel
theorem dX12_nameLetter_55 : decode cX12_nameLetter 55 = .ok (.iload_n 2, 1) := by decide +kernel
theorem dX12_nameLetter_56 : decode cX12_nameLetter 56 = .ok (.iadd, 1) := by decide +kernel
theorem dX12_nameLetter_57 : decode cX12_nameLetter 57 = .ok (.invokevirtual 95, 3) := by decide +kernel
theorem dX12_nameLetter_60 : decode cX12_nameLetter 60 = .ok (.ireturn, 1) := by decide +kernel
set_option maxRecDepth 20000 in
theorem ggX12_findStep_X12_stepNamed : GoodIn wsX12_findStep wsX12_stepNamed := goodIn_r _ [6, 7, 8, 9, 10, 5, 11, 12, 18, 19, 20, 21, 22, 23, 24, 25, 26, 27, 28, 29, 30, 31, 32, 33, 34, 35, 36] rfl (by decide +kernel)
set_option maxRecDepth 20000 in
theorem gX12_findStep_X12_stepNamed : GoodIn wsX12_findStep (wsV RX12 208 RX12 yX12_stepNamed wsX12_stepNamed) := goodIn_app (goodIn_of _ (by decide +kernel)) ggX12_findStep_X12_stepNamed
set_option maxRecDepth 20000 in
theorem ggX12_findStep_X12_fails : GoodIn wsX12_findStep wsX12_fails := goodIn_r _ [16, 17, 18, 19, 20, 21, 22, 23, 24, 25, 26, 27, 28, 29, 30, 31, 32, 33, 34, 35, 36] rfl (by decide +kernel)
set_option maxRecDepth 20000 in
theorem gX12_findStep_X12_fails : GoodIn wsX12_findStep (wsV RX12 167 RX12 yX12_fails wsX12_fails) := goodIn_app (goodIn_of _ (by decide +kernel)) ggX12_findStep_X12_fails
theorem dX12_findStep_0 : decode cX12_findStep 0 = .ok (.aload_n 0, 1) := by decide +kernel
theorem dX12_findStep_1 : decode cX12_findStep 1 = .ok (.iconst 0, 1) := by decide +kernel
theorem dX12_findStep_2 : decode cX12_findStep 2 = .ok (.aload_n 0, 1) := by decide +kernel
theorem dX12_findStep_3 : decode cX12_findStep 3 = .ok (.getfield 27, 3) := by decide +kernel
theorem dX12_findStep_6 : decode cX12_findStep 6 = .ok (.invokevirtual 208, 3) := by decide +kernel
theorem dX12_findStep_9 : decode cX12_findStep 9 = .ok (.istore_n 1, 1) := by decide +kernel
theorem dX12_findStep_10 : decode cX12_findStep 10 = .ok (.aload_n 0, 1) := by decide +kernel
theorem dX12_findStep_11 : decode cX12_findStep 11 = .ok (.iload_n 1, 1) := by decide +kernel
theorem dX12_findStep_12 : decode cX12_findStep 12 = .ok (.iconst (-1), 1) := by decide +kernel
theorem dX12_findStep_13 : decode cX12_findStep 13 = .ok (.if_icmp .ne 7, 3) := by decide +kernel
theorem dX12_findStep_16 : decode cX12_findStep 16 = .ok (.iconst 1, 1) := by decide +kernel
theorem dX12_findStep_17 : decode cX12_findStep 17 = .ok (.goto 4, 3) := by decide +kernel
theorem dX12_findStep_20 : decode cX12_findStep 20 = .ok (.iconst 0, 1) := by decide +kernel
theorem dX12_findStep_21 : decode cX12_findStep 21 = .ok (.iconst 0, 1) := by decide +kernel
theorem dX12_findStep_22 : decode cX12_findStep 22 = .ok (.iconst 0, 1) := by decide +kernel
theorem dX12_findStep_23 : decode cX12_findStep 23 = .ok (.invokevirtual 167, 3) := by decide +kernel
theorem dX12_findStep_26 : decode cX12_findStep 26 = .ok (.ifCond .eq 5, 3) := by decide +kernel
theorem dX12_findStep_29 : decode cX12_findStep 29 = .ok (.iconst 0, 1) := by decide +kernel
theorem dX12_findStep_30 : decode cX12_findStep 30 = .ok (.ireturn, 1) := by decide +kernel
theorem dX12_findStep_31 : decode cX12_findStep 31 = .ok (.iload_n 1, 1) := by decide +kernel
theorem dX12_findStep_32 : decode cX12_findStep 32 = .ok (.ireturn, 1) := by decide +kernel
set_option maxRecDepth 20000 in
theorem ggX12_status_X12_field : GoodIn wsX12_status wsX12_field := goodIn_r _ [5, 6, 7, 8, 4, 9, 10, 11, 12, 13, 14, 15, 16, 17, 18, 19, 20, 21, 22, 23, 24, 25, 26, 27, 28, 29, 30, 31, 32, 33, 34, 35, 36, 37, 38, 39, 40, 41] rfl (by decide +kernel)
set_option maxRecDepth 20000 in
theorem gX12_status_X12_field : GoodIn wsX12_status (wsV RX12 307 RX12 yX12_field wsX12_field) := goodIn_app (goodIn_of _ (by decide +kernel)) ggX12_status_X12_field
theorem dX12_status_0 : decode cX12_status 0 = .ok (.aload_n 0, 1) := by decide +kernel
theorem dX12_status_1 : decode cX12_status 1 = .ok (.iload_n 1, 1) := by decide +kernel
theorem dX12_status_2 : decode cX12_status 2 = .ok (.bipush 17, 2) := by decide +kernel
theorem dX12_status_4 : decode cX12_status 4 = .ok (.invokevirtual 307, 3) := by decide +kernel
theorem dX12_status_7 : decode cX12_status 7 = .ok (.ireturn, 1) := by decide +kernel
set_option maxRecDepth 20000 in
theorem ggX12_remaining_X12_field : GoodIn wsX12_remaining wsX12_field := goodIn_r _ [5, 6, 7, 8, 4, 9, 10, 11, 12, 13, 14, 15, 16, 17, 18, 19, 20, 21, 22, 23, 24, 25, 26, 27, 28, 29, 30, 31, 32, 33, 34, 35, 36, 37, 38, 39, 40, 41] rfl (by decide +kernel)
set_option maxRecDepth 20000 in
theorem gX12_remaining_X12_field : GoodIn wsX12_remaining (wsV RX12 307 RX12 yX12_field wsX12_field) := goodIn_app (goodIn_of _ (by decide +kernel)) ggX12_remaining_X12_field
theorem dX12_remaining_0 : decode cX12_remaining 0 = .ok (.aload_n 0, 1) := by decide +kernel
theorem dX12_remaining_1 : decode cX12_remaining 1 = .ok (.iload_n 1, 1) := by decide +kernel
theorem dX12_remaining_2 : decode cX12_remaining 2 = .ok (.bipush 18, 2) := by decide +kernel
theorem dX12_remaining_4 : decode cX12_remaining 4 = .ok (.invokevirtual 307, 3) := by decide +kernel
theorem dX12_remaining_7 : decode cX12_remaining 7 = .ok (.ireturn, 1) := by decide +kernel
set_option maxRecDepth 20000 in
theorem ggX12_age_X12_field : GoodIn wsX12_age wsX12_field := goodIn_r _ [5, 6, 7, 8, 4, 9, 10, 11, 12, 13, 14, 15, 16, 17, 18, 19, 20, 21, 22, 23, 24, 25, 26, 27, 28, 29, 30, 31, 32, 33, 34, 35, 36, 37, 38, 39, 40, 41] rfl (by decide +kernel)
set_option maxRecDepth 20000 in
theorem gX12_age_X12_field : GoodIn wsX12_age (wsV RX12 307 RX12 yX12_field wsX12_field) := goodIn_app (goodIn_of _ (by decide +kernel)) ggX12_age_X12_field
theorem dX12_age_0 : decode cX12_age 0 = .ok (.aload_n 0, 1) := by decide +kernel
theorem dX12_age_1 : decode cX12_age 1 = .ok (.iload_n 1, 1) := by decide +kernel
theorem dX12_age_2 : decode cX12_age 2 = .ok (.bipush 19, 2) := by decide +kernel
theorem dX12_age_4 : decode cX12_age 4 = .ok (.invokevirtual 307, 3) := by decide +kernel
theorem dX12_age_7 : decode cX12_age 7 = .ok (.ireturn, 1) := by decide +kernel
set_option maxRecDepth 20000 in
theorem ggX12_startsOf_X12_field : GoodIn wsX12_startsOf wsX12_field := goodIn_r _ [5, 6, 7, 8, 4, 9, 10, 11, 12, 13, 14, 15, 16, 17, 18, 19, 20, 21, 22, 23, 24, 25, 26, 27, 28, 29, 30, 31, 32, 33, 34, 35, 36, 37, 38, 39, 40, 41] rfl (by decide +kernel)
set_option maxRecDepth 20000 in
theorem gX12_startsOf_X12_field : GoodIn wsX12_startsOf (wsV RX12 307 RX12 yX12_field wsX12_field) := goodIn_app (goodIn_of _ (by decide +kernel)) ggX12_startsOf_X12_field
theorem dX12_startsOf_0 : decode cX12_startsOf 0 = .ok (.aload_n 0, 1) := by decide +kernel
theorem dX12_startsOf_1 : decode cX12_startsOf 1 = .ok (.iload_n 1, 1) := by decide +kernel
theorem dX12_startsOf_2 : decode cX12_startsOf 2 = .ok (.bipush 20, 2) := by decide +kernel
theorem dX12_startsOf_4 : decode cX12_startsOf 4 = .ok (.invokevirtual 307, 3) := by decide +kernel
theorem dX12_startsOf_7 : decode cX12_startsOf 7 = .ok (.ireturn, 1) := by decide +kernel
set_option maxRecDepth 20000 in
theorem ggX12_isTakenUp_X12_isStep : GoodIn wsX12_isTakenUp wsX12_isStep := goodIn_r _ [5, 6, 7, 8, 4, 9, 31, 32, 33, 34, 35, 36, 37, 38, 39, 40, 41, 42, 43, 44, 45, 46, 47, 48, 49] rfl (by decide +kernel)
set_option maxRecDepth 20000 in
theorem gX12_isTakenUp_X12_isStep : GoodIn wsX12_isTakenUp (wsV RX12 304 RX12 yX12_isStep wsX12_isStep) := goodIn_app (goodIn_of _ (by decide +kernel)) ggX12_isTakenUp_X12_isStep
set_option maxRecDepth 20000 in
theorem ggX12_isTakenUp_X12_fails : GoodIn wsX12_isTakenUp wsX12_fails := goodIn_r _ [13, 14, 31, 32, 33, 34, 35, 36, 37, 38, 39, 40, 41, 42, 43, 44, 45, 46, 47, 48, 49] rfl (by decide +kernel)
set_option maxRecDepth 20000 in
theorem gX12_isTakenUp_X12_fails : GoodIn wsX12_isTakenUp (wsV RX12 167 RX12 yX12_fails wsX12_fails) := goodIn_app (goodIn_of _ (by decide +kernel)) ggX12_isTakenUp_X12_fails
set_option maxRecDepth 20000 in
theorem ggX12_isTakenUp_X12_isTaken : GoodIn wsX12_isTakenUp wsX12_isTaken := goodIn_r _ [18, 19, 20, 21, 4, 22, 6, 23, 24, 25, 26, 27, 28, 29, 30, 31, 32, 33, 34, 35, 36, 37, 38, 39, 40, 41, 42, 43, 44, 45, 46, 47, 48, 49] rfl (by decide +kernel)
set_option maxRecDepth 20000 in
theorem gX12_isTakenUp_X12_isTaken : GoodIn wsX12_isTakenUp (wsV RX12 130 RX12 yX12_isTaken wsX12_isTaken) := goodIn_app (goodIn_of _ (by decide +kernel)) ggX12_isTakenUp_X12_isTaken
theorem dX12_isTakenUp_0 : decode cX12_isTakenUp 0 = .ok (.aload_n 0, 1) := by decide +kernel
theorem dX12_isTakenUp_1 : decode cX12_isTakenUp 1 = .ok (.aload_n 0, 1) := by decide +kernel
theorem dX12_isTakenUp_2 : decode cX12_isTakenUp 2 = .ok (.iload_n 1, 1) := by decide +kernel
theorem dX12_isTakenUp_3 : decode cX12_isTakenUp 3 = .ok (.invokevirtual 304, 3) := by decide +kernel
theorem dX12_isTakenUp_6 : decode cX12_isTakenUp 6 = .ok (.ifCond .ne 7, 3) := by decide +kernel
theorem dX12_isTakenUp_9 : decode cX12_isTakenUp 9 = .ok (.iconst 1, 1) := by decide +kernel
theorem dX12_isTakenUp_10 : decode cX12_isTakenUp 10 = .ok (.goto 4, 3) := by decide +kernel
theorem dX12_isTakenUp_13 : decode cX12_isTakenUp 13 = .ok (.iconst 0, 1) := by decide +kernel
theorem dX12_isTakenUp_14 : decode cX12_isTakenUp 14 = .ok (.iconst 0, 1) := by decide +kernel
theorem dX12_isTakenUp_15 : decode cX12_isTakenUp 15 = .ok (.iconst 0, 1) := by decide +kernel
theorem dX12_isTakenUp_16 : decode cX12_isTakenUp 16 = .ok (.invokevirtual 167, 3) := by decide +kernel
theorem dX12_isTakenUp_19 : decode cX12_isTakenUp 19 = .ok (.ifCond .eq 5, 3) := by decide +kernel
theorem dX12_isTakenUp_22 : decode cX12_isTakenUp 22 = .ok (.iconst 0, 1) := by decide +kernel
theorem dX12_isTakenUp_23 : decode cX12_isTakenUp 23 = .ok (.ireturn, 1) := by decide +kernel
theorem dX12_isTakenUp_24 : decode cX12_isTakenUp 24 = .ok (.aload_n 0, 1) := by decide +kernel
theorem dX12_isTakenUp_25 : decode cX12_isTakenUp 25 = .ok (.iload_n 1, 1) := by decide +kernel
theorem dX12_isTakenUp_26 : decode cX12_isTakenUp 26 = .ok (.invokevirtual 130, 3) := by decide +kernel
theorem dX12_isTakenUp_29 : decode cX12_isTakenUp 29 = .ok (.ireturn, 1) := by decide +kernel
set_option maxRecDepth 20000 in
theorem ggX12_readyStep_X12_queueReady : GoodIn wsX12_readyStep wsX12_queueReady := goodIn_r _ [7, 8, 9, 2, 10, 11, 12, 6, 13, 14, 15, 16, 17, 18, 19, 20, 21, 22, 23, 24, 25, 26, 27, 28, 29, 33, 34, 35, 36, 37, 38, 39, 40, 41, 42, 43, 44, 45, 46, 47, 48, 49, 50, 51] rfl (by decide +kernel)
set_option maxRecDepth 20000 in
theorem gX12_readyStep_X12_queueReady : GoodIn wsX12_readyStep (wsV RX12 152 RX12 yX12_queueReady wsX12_queueReady) := goodIn_app (goodIn_of _ (by decide +kernel)) ggX12_readyStep_X12_queueReady
set_option maxRecDepth 20000 in
theorem ggX12_readyStep_X12_in : GoodIn wsX12_readyStep wsX12_in := goodIn_r _ [32] rfl (by decide +kernel)
set_option maxRecDepth 20000 in
theorem gX12_readyStep_X12_in : GoodIn wsX12_readyStep (va_wsS RX12 87 yX12_in wsX12_in) := goodIn_app (goodIn_of _ (by decide +kernel)) ggX12_readyStep_X12_in
theorem dX12_readyStep_0 : decode cX12_readyStep 0 = .ok (.aload_n 0, 1) := by decide +kernel
theorem dX12_readyStep_1 : decode cX12_readyStep 1 = .ok (.iconst 0, 1) := by decide +kernel
theorem dX12_readyStep_2 : decode cX12_readyStep 2 = .ok (.putfield 1, 3) := by decide +kernel
theorem dX12_readyStep_5 : decode cX12_readyStep 5 = .ok (.iload_n 1, 1) := by decide +kernel
theorem dX12_readyStep_6 : decode cX12_readyStep 6 = .ok (.iconst 0, 1) := by decide +kernel
theorem dX12_readyStep_7 : decode cX12_readyStep 7 = .ok (.aload_n 0, 1) := by decide +kernel
theorem dX12_readyStep_8 : decode cX12_readyStep 8 = .ok (.invokevirtual 152, 3) := by decide +kernel
theorem dX12_readyStep_11 : decode cX12_readyStep 11 = .ok (.iconst 1, 1) := by decide +kernel
theorem dX12_readyStep_12 : decode cX12_readyStep 12 = .ok (.isub, 1) := by decide +kernel
theorem dX12_readyStep_13 : decode cX12_readyStep 13 = .ok (.invokestatic 87, 3) := by decide +kernel
theorem dX12_readyStep_16 : decode cX12_readyStep 16 = .ok (.ifCond .eq 12, 3) := by decide +kernel
theorem dX12_readyStep_19 : decode cX12_readyStep 19 = .ok (.aload_n 0, 1) := by decide +kernel
theorem dX12_readyStep_20 : decode cX12_readyStep 20 = .ok (.getfield 51, 3) := by decide +kernel
theorem dX12_readyStep_23 : decode cX12_readyStep 23 = .ok (.iload_n 1, 1) := by decide +kernel
theorem dX12_readyStep_24 : decode cX12_readyStep 24 = .ok (.iaload, 1) := by decide +kernel
theorem dX12_readyStep_25 : decode cX12_readyStep 25 = .ok (.goto 4, 3) := by decide +kernel
theorem dX12_readyStep_28 : decode cX12_readyStep 28 = .ok (.iconst (-1), 1) := by decide +kernel
theorem dX12_readyStep_29 : decode cX12_readyStep 29 = .ok (.ireturn, 1) := by decide +kernel
set_option maxRecDepth 20000 in
theorem ggX12_reasonFor_X12_of : GoodIn wsX12_reasonFor wsX12_of := goodIn_r _ [5, 6, 43, 44, 45, 46, 47, 48, 49, 50, 51, 52, 53, 54, 55, 56, 57, 58, 59, 60, 61] rfl (by decide +kernel)
set_option maxRecDepth 20000 in
theorem gX12_reasonFor_X12_of : GoodIn wsX12_reasonFor (wsV RX12 95 RX12 yX12_of wsX12_of) := goodIn_app (goodIn_of _ (by decide +kernel)) ggX12_reasonFor_X12_of
set_option maxRecDepth 20000 in
theorem ggX12_reasonFor_X12_firstOpen : GoodIn wsX12_reasonFor wsX12_firstOpen := goodIn_r _ [10, 1, 2, 3, 4, 5, 6, 43, 44, 45, 46, 47, 48, 49, 50, 51, 52, 53, 54, 55, 56, 57, 58, 59, 60, 61] rfl (by decide +kernel)
set_option maxRecDepth 20000 in
theorem gX12_reasonFor_X12_firstOpen : GoodIn wsX12_reasonFor (wsV RX12 106 RX12 yX12_firstOpen wsX12_firstOpen) := goodIn_app (goodIn_of _ (by decide +kernel)) ggX12_reasonFor_X12_firstOpen
set_option maxRecDepth 20000 in
theorem ggX12_reasonFor_X12_hasPan : GoodIn wsX12_reasonFor wsX12_hasPan := goodIn_r _ [14, 1, 2, 3, 4, 5, 6, 15, 16, 17, 18, 19, 20, 21, 22, 23, 24, 25, 26, 27, 28, 29, 30, 31, 32, 33, 34, 43, 44, 45, 46, 47, 48, 49, 50, 51, 52, 53, 54, 55, 56, 57, 58, 59, 60, 61] rfl (by decide +kernel)
set_option maxRecDepth 20000 in
theorem gX12_reasonFor_X12_hasPan : GoodIn wsX12_reasonFor (wsV RX12 136 RX12 yX12_hasPan wsX12_hasPan) := goodIn_app (goodIn_of _ (by decide +kernel)) ggX12_reasonFor_X12_hasPan
set_option maxRecDepth 20000 in
theorem ggX12_reasonFor_X12_hasCook : GoodIn wsX12_reasonFor wsX12_hasCook := goodIn_r _ [38, 6, 39, 40, 41, 4, 42, 1, 2, 3, 5, 43, 44, 45, 46, 47, 48, 49, 50, 51, 52, 53, 54, 55, 56, 57, 58, 59, 60, 61] rfl (by decide +kernel)
set_option maxRecDepth 20000 in
theorem gX12_reasonFor_X12_hasCook : GoodIn wsX12_reasonFor (wsV RX12 133 RX12 yX12_hasCook wsX12_hasCook) := goodIn_app (goodIn_of _ (by decide +kernel)) ggX12_reasonFor_X12_hasCook
theorem dX12_reasonFor_0 : decode cX12_reasonFor 0 = .ok (.aload_n 0, 1) := by decide +kernel
theorem dX12_reasonFor_1 : decode cX12_reasonFor 1 = .ok (.iload_n 1, 1) := by decide +kernel
theorem dX12_reasonFor_2 : decode cX12_reasonFor 2 = .ok (.bipush 17, 2) := by decide +kernel
theorem dX12_reasonFor_4 : decode cX12_reasonFor 4 = .ok (.invokevirtual 95, 3) := by decide +kernel
theorem dX12_reasonFor_7 : decode cX12_reasonFor 7 = .ok (.iconst 1, 1) := by decide +kernel
theorem dX12_reasonFor_8 : decode cX12_reasonFor 8 = .ok (.if_icmp .ne 5, 3) := by decide +kernel
theorem dX12_reasonFor_11 : decode cX12_reasonFor 11 = .ok (.iconst 0, 1) := by decide +kernel
theorem dX12_reasonFor_12 : decode cX12_reasonFor 12 = .ok (.ireturn, 1) := by decide +kernel
theorem dX12_reasonFor_13 : decode cX12_reasonFor 13 = .ok (.aload_n 0, 1) := by decide +kernel
theorem dX12_reasonFor_14 : decode cX12_reasonFor 14 = .ok (.iload_n 1, 1) := by decide +kernel
theorem dX12_reasonFor_15 : decode cX12_reasonFor 15 = .ok (.bipush 17, 2) := by decide +kernel
theorem dX12_reasonFor_17 : decode cX12_reasonFor 17 = .ok (.invokevirtual 95, 3) := by decide +kernel
theorem dX12_reasonFor_20 : decode cX12_reasonFor 20 = .ok (.iconst 2, 1) := by decide +kernel
theorem dX12_reasonFor_21 : decode cX12_reasonFor 21 = .ok (.if_icmp .ne 5, 3) := by decide +kernel
theorem dX12_reasonFor_24 : decode cX12_reasonFor 24 = .ok (.iconst 1, 1) := by decide +kernel
theorem dX12_reasonFor_25 : decode cX12_reasonFor 25 = .ok (.ireturn, 1) := by decide +kernel
theorem dX12_reasonFor_26 : decode cX12_reasonFor 26 = .ok (.aload_n 0, 1) := by decide +kernel
theorem dX12_reasonFor_27 : decode cX12_reasonFor 27 = .ok (.iload_n 1, 1) := by decide +kernel
theorem dX12_reasonFor_28 : decode cX12_reasonFor 28 = .ok (.invokevirtual 106, 3) := by decide +kernel
theorem dX12_reasonFor_31 : decode cX12_reasonFor 31 = .ok (.iconst (-1), 1) := by decide +kernel
theorem dX12_reasonFor_32 : decode cX12_reasonFor 32 = .ok (.if_icmp .eq 5, 3) := by decide +kernel
theorem dX12_reasonFor_35 : decode cX12_reasonFor 35 = .ok (.iconst 2, 1) := by decide +kernel
theorem dX12_reasonFor_36 : decode cX12_reasonFor 36 = .ok (.ireturn, 1) := by decide +kernel
theorem dX12_reasonFor_37 : decode cX12_reasonFor 37 = .ok (.aload_n 0, 1) := by decide +kernel
theorem dX12_reasonFor_38 : decode cX12_reasonFor 38 = .ok (.iload_n 1, 1) := by decide +kernel
theorem dX12_reasonFor_39 : decode cX12_reasonFor 39 = .ok (.invokevirtual 136, 3) := by decide +kernel
theorem dX12_reasonFor_42 : decode cX12_reasonFor 42 = .ok (.ifCond .ne 5, 3) := by decide +kernel
theorem dX12_reasonFor_45 : decode cX12_reasonFor 45 = .ok (.iconst 3, 1) := by decide +kernel
theorem dX12_reasonFor_46 : decode cX12_reasonFor 46 = .ok (.ireturn, 1) := by decide +kernel
theorem dX12_reasonFor_47 : decode cX12_reasonFor 47 = .ok (.aload_n 0, 1) := by decide +kernel
theorem dX12_reasonFor_48 : decode cX12_reasonFor 48 = .ok (.iload_n 1, 1) := by decide +kernel
theorem dX12_reasonFor_49 : decode cX12_reasonFor 49 = .ok (.invokevirtual 133, 3) := by decide +kernel
theorem dX12_reasonFor_52 : decode cX12_reasonFor 52 = .ok (.ifCond .eq 7, 3) := by decide +kernel
theorem dX12_reasonFor_55 : decode cX12_reasonFor 55 = .ok (.iconst 5, 1) := by decide +kernel
theorem dX12_reasonFor_56 : decode cX12_reasonFor 56 = .ok (.goto 4, 3) := by decide +kernel
theorem dX12_reasonFor_59 : decode cX12_reasonFor 59 = .ok (.iconst 4, 1) := by decide +kernel
theorem dX12_reasonFor_60 : decode cX12_reasonFor 60 = .ok (.ireturn, 1) := by decide +kernel
set_option maxRecDepth 20000 in
theorem ggX12_whyNotRunning_X12_isStep : GoodIn wsX12_whyNotRunning wsX12_isStep := goodIn_r _ [5, 6, 7, 8, 4, 9, 59, 60, 61, 62, 63, 64, 65, 66, 67, 68, 69, 70, 71, 72, 73, 74, 75, 76, 77] rfl (by decide +kernel)
set_option maxRecDepth 20000 in
theorem gX12_whyNotRunning_X12_isStep : GoodIn wsX12_whyNotRunning (wsV RX12 304 RX12 yX12_isStep wsX12_isStep) := goodIn_app (goodIn_of _ (by decide +kernel)) ggX12_whyNotRunning_X12_isStep
set_option maxRecDepth 20000 in
theorem ggX12_whyNotRunning_X12_fails : GoodIn wsX12_whyNotRunning wsX12_fails := goodIn_r _ [13, 14, 59, 60, 61, 62, 63, 64, 65, 66, 67, 68, 69, 70, 71, 72, 73, 74, 75, 76, 77] rfl (by decide +kernel)
set_option maxRecDepth 20000 in
theorem gX12_whyNotRunning_X12_fails : GoodIn wsX12_whyNotRunning (wsV RX12 167 RX12 yX12_fails wsX12_fails) := goodIn_app (goodIn_of _ (by decide +kernel)) ggX12_whyNotRunning_X12_fails
set_option maxRecDepth 20000 in
theorem ggX12_whyNotRunning_X12_reasonFor : GoodIn wsX12_whyNotRunning wsX12_reasonFor := goodIn_r _ [18, 19, 20, 21, 4, 22, 6, 23, 24, 25, 26, 27, 28, 29, 30, 31, 32, 33, 34, 35, 36, 37, 38, 39, 40, 41, 42, 43, 44, 45, 46, 47, 48, 49, 50, 51, 52, 53, 54, 55, 56, 57, 58, 59, 60, 61, 62, 63, 64, 65, 66, 67, 68, 69, 70, 71, 72, 73, 74, 75, 76, 77] rfl (by decide +kernel)
set_option maxRecDepth 20000 in
theorem gX12_whyNotRunning_X12_reasonFor : GoodIn wsX12_whyNotRunning (wsV RX12 313 RX12 yX12_reasonFor wsX12_reasonFor) := goodIn_app (goodIn_of _ (by decide +kernel)) ggX12_whyNotRunning_X12_reasonFor
theorem dX12_whyNotRunning_0 : decode cX12_whyNotRunning 0 = .ok (.aload_n 0, 1) := by decide +kernel
theorem dX12_whyNotRunning_1 : decode cX12_whyNotRunning 1 = .ok (.aload_n 0, 1) := by decide +kernel
theorem dX12_whyNotRunning_2 : decode cX12_whyNotRunning 2 = .ok (.iload_n 1, 1) := by decide +kernel
theorem dX12_whyNotRunning_3 : decode cX12_whyNotRunning 3 = .ok (.invokevirtual 304, 3) := by decide +kernel
theorem dX12_whyNotRunning_6 : decode cX12_whyNotRunning 6 = .ok (.ifCond .ne 7, 3) := by decide +kernel
theorem dX12_whyNotRunning_9 : decode cX12_whyNotRunning 9 = .ok (.iconst 1, 1) := by decide +kernel
theorem dX12_whyNotRunning_10 : decode cX12_whyNotRunning 10 = .ok (.goto 4, 3) := by decide +kernel
theorem dX12_whyNotRunning_13 : decode cX12_whyNotRunning 13 = .ok (.iconst 0, 1) := by decide +kernel
theorem dX12_whyNotRunning_14 : decode cX12_whyNotRunning 14 = .ok (.iconst 0, 1) := by decide +kernel
theorem dX12_whyNotRunning_15 : decode cX12_whyNotRunning 15 = .ok (.iconst 0, 1) := by decide +kernel
theorem dX12_whyNotRunning_16 : decode cX12_whyNotRunning 16 = .ok (.invokevirtual 167, 3) := by decide +kernel
theorem dX12_whyNotRunning_19 : decode cX12_whyNotRunning 19 = .ok (.ifCond .eq 5, 3) := by decide +kernel
theorem dX12_whyNotRunning_22 : decode cX12_whyNotRunning 22 = .ok (.iconst 0, 1) := by decide +kernel
theorem dX12_whyNotRunning_23 : decode cX12_whyNotRunning 23 = .ok (.ireturn, 1) := by decide +kernel
theorem dX12_whyNotRunning_24 : decode cX12_whyNotRunning 24 = .ok (.aload_n 0, 1) := by decide +kernel
theorem dX12_whyNotRunning_25 : decode cX12_whyNotRunning 25 = .ok (.iload_n 1, 1) := by decide +kernel
theorem dX12_whyNotRunning_26 : decode cX12_whyNotRunning 26 = .ok (.invokevirtual 313, 3) := by decide +kernel
theorem dX12_whyNotRunning_29 : decode cX12_whyNotRunning 29 = .ok (.ireturn, 1) := by decide +kernel
set_option maxRecDepth 20000 in
theorem ggX12_blocker_X12_reasonFor : GoodIn wsX12_blocker wsX12_reasonFor := goodIn_r _ [6, 7, 8, 9, 5, 10, 1, 11, 12, 13, 14, 15, 16, 17, 18, 19, 20, 21, 22, 23, 24, 25, 26, 27, 28, 29, 30, 31, 32, 33, 34, 35, 36, 37, 38, 39, 40, 41, 42, 43, 44, 45, 46, 47, 48, 49, 50, 51, 52, 53, 54, 55, 56, 57, 58, 59, 60, 61, 62, 63, 64, 65] rfl (by decide +kernel)
set_option maxRecDepth 20000 in
theorem gX12_blocker_X12_reasonFor : GoodIn wsX12_blocker (wsV RX12 313 RX12 yX12_reasonFor wsX12_reasonFor) := goodIn_app (goodIn_of _ (by decide +kernel)) ggX12_blocker_X12_reasonFor
set_option maxRecDepth 20000 in
theorem ggX12_blocker_X12_firstOpen : GoodIn wsX12_blocker wsX12_firstOpen := goodIn_r _ [14, 7, 8, 9, 5, 10, 1, 47, 48, 49, 50, 51, 52, 53, 54, 55, 56, 57, 58, 59, 60, 61, 62, 63, 64, 65] rfl (by decide +kernel)
set_option maxRecDepth 20000 in
theorem gX12_blocker_X12_firstOpen : GoodIn wsX12_blocker (wsV RX12 106 RX12 yX12_firstOpen wsX12_firstOpen) := goodIn_app (goodIn_of _ (by decide +kernel)) ggX12_blocker_X12_firstOpen
set_option maxRecDepth 20000 in
theorem ggX12_blocker_X12_of : GoodIn wsX12_blocker wsX12_of := goodIn_r _ [10, 1, 47, 48, 49, 50, 51, 52, 53, 54, 55, 56, 57, 58, 59, 60, 61, 62, 63, 64, 65] rfl (by decide +kernel)
set_option maxRecDepth 20000 in
theorem gX12_blocker_X12_of : GoodIn wsX12_blocker (wsV RX12 95 RX12 yX12_of wsX12_of) := goodIn_app (goodIn_of _ (by decide +kernel)) ggX12_blocker_X12_of
set_option maxRecDepth 20000 in
theorem ggX12_blocker_X12_occupies : GoodIn wsX12_blocker wsX12_occupies := goodIn_r _ [26, 7, 8, 9, 5, 10, 1, 27, 28, 29, 30, 31, 32, 33, 34, 47, 48, 49, 50, 51, 52, 53, 54, 55, 56, 57, 58, 59, 60, 61, 62, 63, 64, 65] rfl (by decide +kernel)
set_option maxRecDepth 20000 in
theorem gX12_blocker_X12_occupies : GoodIn wsX12_blocker (wsV RX12 110 RX12 yX12_occupies wsX12_occupies) := goodIn_app (goodIn_of _ (by decide +kernel)) ggX12_blocker_X12_occupies
set_option maxRecDepth 20000 in
theorem ggX12_blocker_X12_isCooked : GoodIn wsX12_blocker wsX12_isCooked := goodIn_r _ [46, 7, 8, 9, 5, 10, 1, 47, 48, 49, 50, 51, 52, 53, 54, 55, 56, 57, 58, 59, 60, 61, 62, 63, 64, 65] rfl (by decide +kernel)
set_option maxRecDepth 20000 in
theorem gX12_blocker_X12_isCooked : GoodIn wsX12_blocker (wsV RX12 119 RX12 yX12_isCooked wsX12_isCooked) := goodIn_app (goodIn_of _ (by decide +kernel)) ggX12_blocker_X12_isCooked
theorem dX12_blocker_0 : decode cX12_blocker 0 = .ok (.aload_n 0, 1) := by decide +kernel
theorem dX12_blocker_1 : decode cX12_blocker 1 = .ok (.iload_n 1, 1) := by decide +kernel
theorem dX12_blocker_2 : decode cX12_blocker 2 = .ok (.invokevirtual 313, 3) := by decide +kernel
theorem dX12_blocker_5 : decode cX12_blocker 5 = .ok (.istore_n 2, 1) := by decide +kernel
theorem dX12_blocker_6 : decode cX12_blocker 6 = .ok (.iload_n 2, 1) := by decide +kernel
theorem dX12_blocker_7 : decode cX12_blocker 7 = .ok (.iconst 2, 1) := by decide +kernel
theorem dX12_blocker_8 : decode cX12_blocker 8 = .ok (.if_icmp .ne 9, 3) := by decide +kernel
theorem dX12_blocker_11 : decode cX12_blocker 11 = .ok (.aload_n 0, 1) := by decide +kernel
theorem dX12_blocker_12 : decode cX12_blocker 12 = .ok (.iload_n 1, 1) := by decide +kernel
theorem dX12_blocker_13 : decode cX12_blocker 13 = .ok (.invokevirtual 106, 3) := by decide +kernel
theorem dX12_blocker_16 : decode cX12_blocker 16 = .ok (.ireturn, 1) := by decide +kernel
theorem dX12_blocker_17 : decode cX12_blocker 17 = .ok (.iconst 0, 1) := by decide +kernel
theorem dX12_blocker_18 : decode cX12_blocker 18 = .ok (.istore_n 3, 1) := by decide +kernel
theorem dX12_blocker_19 : decode cX12_blocker 19 = .ok (.iload_n 3, 1) := by decide +kernel
theorem dX12_blocker_20 : decode cX12_blocker 20 = .ok (.aload_n 0, 1) := by decide +kernel
theorem dX12_blocker_21 : decode cX12_blocker 21 = .ok (.getfield 13, 3) := by decide +kernel
theorem dX12_blocker_24 : decode cX12_blocker 24 = .ok (.bipush 13, 2) := by decide +kernel
theorem dX12_blocker_26 : decode cX12_blocker 26 = .ok (.iaload, 1) := by decide +kernel
theorem dX12_blocker_27 : decode cX12_blocker 27 = .ok (.if_icmp .ge 44, 3) := by decide +kernel
theorem dX12_blocker_30 : decode cX12_blocker 30 = .ok (.iload_n 2, 1) := by decide +kernel
theorem dX12_blocker_31 : decode cX12_blocker 31 = .ok (.iconst 3, 1) := by decide +kernel
theorem dX12_blocker_32 : decode cX12_blocker 32 = .ok (.if_icmp .ne 18, 3) := by decide +kernel
theorem dX12_blocker_35 : decode cX12_blocker 35 = .ok (.aload_n 0, 1) := by decide +kernel
theorem dX12_blocker_36 : decode cX12_blocker 36 = .ok (.iload_n 3, 1) := by decide +kernel
theorem dX12_blocker_37 : decode cX12_blocker 37 = .ok (.aload_n 0, 1) := by decide +kernel
theorem dX12_blocker_38 : decode cX12_blocker 38 = .ok (.iload_n 1, 1) := by decide +kernel
theorem dX12_blocker_39 : decode cX12_blocker 39 = .ok (.bipush 9, 2) := by decide +kernel
theorem dX12_blocker_41 : decode cX12_blocker 41 = .ok (.invokevirtual 95, 3) := by decide +kernel
theorem dX12_blocker_44 : decode cX12_blocker 44 = .ok (.invokevirtual 110, 3) := by decide +kernel
theorem dX12_blocker_47 : decode cX12_blocker 47 = .ok (.ifCond .ne 16, 3) := by decide +kernel
theorem dX12_blocker_50 : decode cX12_blocker 50 = .ok (.iload_n 2, 1) := by decide +kernel
theorem dX12_blocker_51 : decode cX12_blocker 51 = .ok (.iconst 4, 1) := by decide +kernel
theorem dX12_blocker_52 : decode cX12_blocker 52 = .ok (.if_icmp .ne 13, 3) := by decide +kernel
theorem dX12_blocker_55 : decode cX12_blocker 55 = .ok (.aload_n 0, 1) := by decide +kernel
theorem dX12_blocker_56 : decode cX12_blocker 56 = .ok (.iload_n 3, 1) := by decide +kernel
theorem dX12_blocker_57 : decode cX12_blocker 57 = .ok (.invokevirtual 119, 3) := by decide +kernel
theorem dX12_blocker_60 : decode cX12_blocker 60 = .ok (.ifCond .eq 5, 3) := by decide +kernel
theorem dX12_blocker_63 : decode cX12_blocker 63 = .ok (.iload_n 3, 1) := by decide +kernel
theorem dX12_blocker_64 : decode cX12_blocker 64 = .ok (.ireturn, 1) := by decide +kernel
theorem dX12_blocker_65 : decode cX12_blocker 65 = .ok (.iinc 3 1, 3) := by decide +kernel
theorem dX12_blocker_68 : decode cX12_blocker 68 = .ok (.goto (-49), 3) := by decide +kernel
theorem dX12_blocker_71 : decode cX12_blocker 71 = .ok (.iconst (-1), 1) := by decide +kernel
theorem dX12_blocker_72 : decode cX12_blocker 72 = .ok (.ireturn, 1) := by decide +kernel
set_option maxRecDepth 20000 in
theorem ggX12_blockingStep_X12_isStep : GoodIn wsX12_blockingStep wsX12_isStep := goodIn_r _ [5, 6, 7, 8, 4, 9, 63, 64, 65, 66, 67, 68, 69, 70, 71, 72, 73, 74, 75, 76, 77, 78, 79, 80, 81] rfl (by decide +kernel)
set_option maxRecDepth 20000 in
theorem gX12_blockingStep_X12_isStep : GoodIn wsX12_blockingStep (wsV RX12 304 RX12 yX12_isStep wsX12_isStep) := goodIn_app (goodIn_of _ (by decide +kernel)) ggX12_blockingStep_X12_isStep
set_option maxRecDepth 20000 in
theorem ggX12_blockingStep_X12_fails : GoodIn wsX12_blockingStep wsX12_fails := goodIn_r _ [13, 14, 63, 64, 65, 66, 67, 68, 69, 70, 71, 72, 73, 74, 75, 76, 77, 78, 79, 80, 81] rfl (by decide +kernel)
set_option maxRecDepth 20000 in
theorem gX12_blockingStep_X12_fails : GoodIn wsX12_blockingStep (wsV RX12 167 RX12 yX12_fails wsX12_fails) := goodIn_app (goodIn_of _ (by decide +kernel)) ggX12_blockingStep_X12_fails
set_option maxRecDepth 20000 in
theorem ggX12_blockingStep_X12_blocker : GoodIn wsX12_blockingStep wsX12_blocker := goodIn_r _ [18, 6, 19, 20, 21, 4, 22, 23, 24, 25, 26, 27, 28, 29, 30, 31, 32, 33, 34, 35, 36, 37, 38, 39, 40, 41, 42, 43, 44, 45, 46, 47, 48, 49, 50, 51, 52, 53, 54, 55, 56, 57, 58, 59, 60, 61, 62, 63, 64, 65, 66, 67, 68, 69, 70, 71, 72, 73, 74, 75, 76, 77, 78, 79, 80, 81] rfl (by decide +kernel)
set_option maxRecDepth 20000 in
theorem gX12_blockingStep_X12_blocker : GoodIn wsX12_blockingStep (wsV RX12 316 RX12 yX12_blocker wsX12_blocker) := goodIn_app (goodIn_of _ (by decide +kernel)) ggX12_blockingStep_X12_blocker
theorem dX12_blockingStep_0 : decode cX12_blockingStep 0 = .ok (.aload_n 0, 1) := by decide +kernel
theorem dX12_blockingStep_1 : decode cX12_blockingStep 1 = .ok (.aload_n 0, 1) := by decide +kernel
theorem dX12_blockingStep_2 : decode cX12_blockingStep 2 = .ok (.iload_n 1, 1) := by decide +kernel
theorem dX12_blockingStep_3 : decode cX12_blockingStep 3 = .ok (.invokevirtual 304, 3) := by decide +kernel
theorem dX12_blockingStep_6 : decode cX12_blockingStep 6 = .ok (.ifCond .ne 7, 3) := by decide +kernel
theorem dX12_blockingStep_9 : decode cX12_blockingStep 9 = .ok (.iconst 1, 1) := by decide +kernel
theorem dX12_blockingStep_10 : decode cX12_blockingStep 10 = .ok (.goto 4, 3) := by decide +kernel
theorem dX12_blockingStep_13 : decode cX12_blockingStep 13 = .ok (.iconst 0, 1) := by decide +kernel
theorem dX12_blockingStep_14 : decode cX12_blockingStep 14 = .ok (.iconst 0, 1) := by decide +kernel
theorem dX12_blockingStep_15 : decode cX12_blockingStep 15 = .ok (.iconst 0, 1) := by decide +kernel
theorem dX12_blockingStep_16 : decode cX12_blockingStep 16 = .ok (.invokevirtual 167, 3) := by decide +kernel
theorem dX12_blockingStep_19 : decode cX12_blockingStep 19 = .ok (.ifCond .eq 5, 3) := by decide +kernel
theorem dX12_blockingStep_22 : decode cX12_blockingStep 22 = .ok (.iconst 0, 1) := by decide +kernel
theorem dX12_blockingStep_23 : decode cX12_blockingStep 23 = .ok (.ireturn, 1) := by decide +kernel
theorem dX12_blockingStep_24 : decode cX12_blockingStep 24 = .ok (.aload_n 0, 1) := by decide +kernel
theorem dX12_blockingStep_25 : decode cX12_blockingStep 25 = .ok (.iload_n 1, 1) := by decide +kernel
theorem dX12_blockingStep_26 : decode cX12_blockingStep 26 = .ok (.invokevirtual 316, 3) := by decide +kernel
theorem dX12_blockingStep_29 : decode cX12_blockingStep 29 = .ok (.ireturn, 1) := by decide +kernel
set_option maxRecDepth 20000 in
theorem ggX12_rootBlocker_X12_isStep : GoodIn wsX12_rootBlocker wsX12_isStep := goodIn_r _ [5, 6, 7, 8, 4, 9, 59, 60, 61, 62, 63, 64, 65, 66, 67, 68, 69, 70, 71, 72, 73, 74, 75, 76, 77] rfl (by decide +kernel)
set_option maxRecDepth 20000 in
theorem gX12_rootBlocker_X12_isStep : GoodIn wsX12_rootBlocker (wsV RX12 304 RX12 yX12_isStep wsX12_isStep) := goodIn_app (goodIn_of _ (by decide +kernel)) ggX12_rootBlocker_X12_isStep
set_option maxRecDepth 20000 in
theorem ggX12_rootBlocker_X12_fails : GoodIn wsX12_rootBlocker wsX12_fails := goodIn_r _ [13, 14, 59, 60, 61, 62, 63, 64, 65, 66, 67, 68, 69, 70, 71, 72, 73, 74, 75, 76, 77] rfl (by decide +kernel)
set_option maxRecDepth 20000 in
theorem gX12_rootBlocker_X12_fails : GoodIn wsX12_rootBlocker (wsV RX12 167 RX12 yX12_fails wsX12_fails) := goodIn_app (goodIn_of _ (by decide +kernel)) ggX12_rootBlocker_X12_fails
set_option maxRecDepth 20000 in
theorem ggX12_rootBlocker_X12_reasonFor : GoodIn wsX12_rootBlocker wsX12_reasonFor := goodIn_r _ [18, 19, 20, 21, 4, 22, 6, 23, 24, 25, 26, 27, 28, 29, 30, 31, 32, 33, 34, 35, 36, 37, 38, 39, 40, 41, 42, 43, 44, 45, 46, 47, 48, 49, 50, 51, 52, 53, 54, 55, 56, 57, 58, 59, 60, 61, 62, 63, 64, 65, 66, 67, 68, 69, 70, 71, 72, 73, 74, 75, 76, 77] rfl (by decide +kernel)
set_option maxRecDepth 20000 in
theorem gX12_rootBlocker_X12_reasonFor : GoodIn wsX12_rootBlocker (wsV RX12 313 RX12 yX12_reasonFor wsX12_reasonFor) := goodIn_app (goodIn_of _ (by decide +kernel)) ggX12_rootBlocker_X12_reasonFor
set_option maxRecDepth 20000 in
theorem ggX12_rootBlocker_X12_firstOpen : GoodIn wsX12_rootBlocker wsX12_firstOpen := goodIn_r _ [26, 19, 20, 21, 4, 22, 6, 59, 60, 61, 62, 63, 64, 65, 66, 67, 68, 69, 70, 71, 72, 73, 74, 75, 76, 77] rfl (by decide +kernel)
set_option maxRecDepth 20000 in
theorem gX12_rootBlocker_X12_firstOpen : GoodIn wsX12_rootBlocker (wsV RX12 106 RX12 yX12_firstOpen wsX12_firstOpen) := goodIn_app (goodIn_of _ (by decide +kernel)) ggX12_rootBlocker_X12_firstOpen
theorem dX12_rootBlocker_0 : decode cX12_rootBlocker 0 = .ok (.aload_n 0, 1) := by decide +kernel
theorem dX12_rootBlocker_1 : decode cX12_rootBlocker 1 = .ok (.aload_n 0, 1) := by decide +kernel
theorem dX12_rootBlocker_2 : decode cX12_rootBlocker 2 = .ok (.iload_n 1, 1) := by decide +kernel
theorem dX12_rootBlocker_3 : decode cX12_rootBlocker 3 = .ok (.invokevirtual 304, 3) := by decide +kernel
theorem dX12_rootBlocker_6 : decode cX12_rootBlocker 6 = .ok (.ifCond .ne 7, 3) := by decide +kernel
theorem dX12_rootBlocker_9 : decode cX12_rootBlocker 9 = .ok (.iconst 1, 1) := by decide +kernel
theorem dX12_rootBlocker_10 : decode cX12_rootBlocker 10 = .ok (.goto 4, 3) := by decide +kernel
theorem dX12_rootBlocker_13 : decode cX12_rootBlocker 13 = .ok (.iconst 0, 1) := by decide +kernel
theorem dX12_rootBlocker_14 : decode cX12_rootBlocker 14 = .ok (.iconst 0, 1) := by decide +kernel
theorem dX12_rootBlocker_15 : decode cX12_rootBlocker 15 = .ok (.iconst 0, 1) := by decide +kernel
theorem dX12_rootBlocker_16 : decode cX12_rootBlocker 16 = .ok (.invokevirtual 167, 3) := by decide +kernel
theorem dX12_rootBlocker_19 : decode cX12_rootBlocker 19 = .ok (.ifCond .eq 5, 3) := by decide +kernel
theorem dX12_rootBlocker_22 : decode cX12_rootBlocker 22 = .ok (.iconst 0, 1) := by decide +kernel
theorem dX12_rootBlocker_23 : decode cX12_rootBlocker 23 = .ok (.ireturn, 1) := by decide +kernel
theorem dX12_rootBlocker_24 : decode cX12_rootBlocker 24 = .ok (.iconst (-1), 1) := by decide +kernel
theorem dX12_rootBlocker_25 : decode cX12_rootBlocker 25 = .ok (.istore_n 2, 1) := by decide +kernel
theorem dX12_rootBlocker_26 : decode cX12_rootBlocker 26 = .ok (.iload_n 1, 1) := by decide +kernel
theorem dX12_rootBlocker_27 : decode cX12_rootBlocker 27 = .ok (.istore_n 3, 1) := by decide +kernel
theorem dX12_rootBlocker_28 : decode cX12_rootBlocker 28 = .ok (.aload_n 0, 1) := by decide +kernel
theorem dX12_rootBlocker_29 : decode cX12_rootBlocker 29 = .ok (.iload_n 3, 1) := by decide +kernel
theorem dX12_rootBlocker_30 : decode cX12_rootBlocker 30 = .ok (.invokevirtual 313, 3) := by decide +kernel
theorem dX12_rootBlocker_33 : decode cX12_rootBlocker 33 = .ok (.iconst 2, 1) := by decide +kernel
theorem dX12_rootBlocker_34 : decode cX12_rootBlocker 34 = .ok (.if_icmp .ne 14, 3) := by decide +kernel
theorem dX12_rootBlocker_37 : decode cX12_rootBlocker 37 = .ok (.aload_n 0, 1) := by decide +kernel
theorem dX12_rootBlocker_38 : decode cX12_rootBlocker 38 = .ok (.iload_n 3, 1) := by decide +kernel
theorem dX12_rootBlocker_39 : decode cX12_rootBlocker 39 = .ok (.invokevirtual 106, 3) := by decide +kernel
theorem dX12_rootBlocker_42 : decode cX12_rootBlocker 42 = .ok (.istore_n 2, 1) := by decide +kernel
theorem dX12_rootBlocker_43 : decode cX12_rootBlocker 43 = .ok (.iload_n 2, 1) := by decide +kernel
theorem dX12_rootBlocker_44 : decode cX12_rootBlocker 44 = .ok (.istore_n 3, 1) := by decide +kernel
theorem dX12_rootBlocker_45 : decode cX12_rootBlocker 45 = .ok (.goto (-17), 3) := by decide +kernel
theorem dX12_rootBlocker_48 : decode cX12_rootBlocker 48 = .ok (.iload_n 2, 1) := by decide +kernel
theorem dX12_rootBlocker_49 : decode cX12_rootBlocker 49 = .ok (.ireturn, 1) := by decide +kernel
set_option maxRecDepth 20000 in
theorem ggX12_whyNotServed_X12_servingReason : GoodIn wsX12_whyNotServed wsX12_servingReason := goodIn_r _ [6, 7, 8, 9, 10, 5, 11, 12, 13, 14, 15, 16, 17, 18, 19, 20, 21, 22, 23, 24, 25, 26, 27, 28, 29, 30, 31, 32, 33, 34, 35, 36, 37, 38, 39, 40, 41, 42] rfl (by decide +kernel)
set_option maxRecDepth 20000 in
theorem gX12_whyNotServed_X12_servingReason : GoodIn wsX12_whyNotServed (wsV RX12 274 RX12 yX12_servingReason wsX12_servingReason) := goodIn_app (goodIn_of _ (by decide +kernel)) ggX12_whyNotServed_X12_servingReason
theorem dX12_whyNotServed_0 : decode cX12_whyNotServed 0 = .ok (.aload_n 0, 1) := by decide +kernel
theorem dX12_whyNotServed_1 : decode cX12_whyNotServed 1 = .ok (.iconst 0, 1) := by decide +kernel
theorem dX12_whyNotServed_2 : decode cX12_whyNotServed 2 = .ok (.putfield 1, 3) := by decide +kernel
theorem dX12_whyNotServed_5 : decode cX12_whyNotServed 5 = .ok (.aload_n 0, 1) := by decide +kernel
theorem dX12_whyNotServed_6 : decode cX12_whyNotServed 6 = .ok (.invokevirtual 274, 3) := by decide +kernel
theorem dX12_whyNotServed_9 : decode cX12_whyNotServed 9 = .ok (.ireturn, 1) := by decide +kernel
set_option maxRecDepth 20000 in
theorem ggX12_criticalStep_X12_computePaths : GoodIn wsX12_criticalStep wsX12_computePaths := goodIn_r _ [8, 2, 3, 9, 10, 11, 7, 12, 13, 14, 15, 16, 17, 18, 19, 20, 21, 22, 23, 24, 25, 26, 27, 28, 29, 30, 31, 32, 33, 34, 35] rfl (by decide +kernel)
set_option maxRecDepth 20000 in
theorem gX12_criticalStep_X12_computePaths : GoodIn wsX12_criticalStep (wsV RX12 139 RX12 yX12_computePaths wsX12_computePaths) := goodIn_app (goodIn_of _ (by decide +kernel)) ggX12_criticalStep_X12_computePaths
set_option maxRecDepth 20000 in
theorem ggX12_criticalStep_X12_isPredecessor : GoodIn wsX12_criticalStep wsX12_isPredecessor := goodIn_r _ [12, 13, 14, 15, 7, 16, 2, 17, 18, 19, 20, 21, 22, 23, 24, 25, 26, 27, 28, 29, 30, 31, 32, 33, 34, 35] rfl (by decide +kernel)
set_option maxRecDepth 20000 in
theorem gX12_criticalStep_X12_isPredecessor : GoodIn wsX12_criticalStep (wsV RX12 99 RX12 yX12_isPredecessor wsX12_isPredecessor) := goodIn_app (goodIn_of _ (by decide +kernel)) ggX12_criticalStep_X12_isPredecessor
theorem dX12_criticalStep_0 : decode cX12_criticalStep 0 = .ok (.aload_n 0, 1) := by decide +kernel
theorem dX12_criticalStep_1 : decode cX12_criticalStep 1 = .ok (.iconst 0, 1) := by decide +kernel
theorem dX12_criticalStep_2 : decode cX12_criticalStep 2 = .ok (.putfield 1, 3) := by decide +kernel
theorem dX12_criticalStep_5 : decode cX12_criticalStep 5 = .ok (.aload_n 0, 1) := by decide +kernel
theorem dX12_criticalStep_6 : decode cX12_criticalStep 6 = .ok (.invokevirtual 139, 3) := by decide +kernel
theorem dX12_criticalStep_9 : decode cX12_criticalStep 9 = .ok (.iconst (-1), 1) := by decide +kernel
theorem dX12_criticalStep_10 : decode cX12_criticalStep 10 = .ok (.istore_n 2, 1) := by decide +kernel
theorem dX12_criticalStep_11 : decode cX12_criticalStep 11 = .ok (.iconst 0, 1) := by decide +kernel
theorem dX12_criticalStep_12 : decode cX12_criticalStep 12 = .ok (.istore_n 3, 1) := by decide +kernel
theorem dX12_criticalStep_13 : decode cX12_criticalStep 13 = .ok (.iload_n 3, 1) := by decide +kernel
theorem dX12_criticalStep_14 : decode cX12_criticalStep 14 = .ok (.iload_n 1, 1) := by decide +kernel
theorem dX12_criticalStep_15 : decode cX12_criticalStep 15 = .ok (.if_icmp .gt 97, 3) := by decide +kernel
theorem dX12_criticalStep_18 : decode cX12_criticalStep 18 = .ok (.iconst (-1), 1) := by decide +kernel
theorem dX12_criticalStep_19 : decode cX12_criticalStep 19 = .ok (.istore 4, 2) := by decide +kernel
theorem dX12_criticalStep_21 : decode cX12_criticalStep 21 = .ok (.iconst 0, 1) := by decide +kernel
theorem dX12_criticalStep_22 : decode cX12_criticalStep 22 = .ok (.istore 5, 2) := by decide +kernel
theorem dX12_criticalStep_24 : decode cX12_criticalStep 24 = .ok (.iload 5, 2) := by decide +kernel
theorem dX12_criticalStep_26 : decode cX12_criticalStep 26 = .ok (.aload_n 0, 1) := by decide +kernel
theorem dX12_criticalStep_27 : decode cX12_criticalStep 27 = .ok (.getfield 13, 3) := by decide +kernel
theorem dX12_criticalStep_30 : decode cX12_criticalStep 30 = .ok (.bipush 13, 2) := by decide +kernel
theorem dX12_criticalStep_32 : decode cX12_criticalStep 32 = .ok (.iaload, 1) := by decide +kernel
theorem dX12_criticalStep_33 : decode cX12_criticalStep 33 = .ok (.if_icmp .ge 62, 3) := by decide +kernel
theorem dX12_criticalStep_36 : decode cX12_criticalStep 36 = .ok (.iload_n 3, 1) := by decide +kernel
theorem dX12_criticalStep_37 : decode cX12_criticalStep 37 = .ok (.ifCond .eq 13, 3) := by decide +kernel
theorem dX12_criticalStep_40 : decode cX12_criticalStep 40 = .ok (.aload_n 0, 1) := by decide +kernel
theorem dX12_criticalStep_41 : decode cX12_criticalStep 41 = .ok (.iload_n 2, 1) := by decide +kernel
theorem dX12_criticalStep_42 : decode cX12_criticalStep 42 = .ok (.iload 5, 2) := by decide +kernel
theorem dX12_criticalStep_44 : decode cX12_criticalStep 44 = .ok (.invokevirtual 99, 3) := by decide +kernel
theorem dX12_criticalStep_47 : decode cX12_criticalStep 47 = .ok (.ifCond .eq 7, 3) := by decide +kernel
theorem dX12_criticalStep_50 : decode cX12_criticalStep 50 = .ok (.iconst 1, 1) := by decide +kernel
theorem dX12_criticalStep_51 : decode cX12_criticalStep 51 = .ok (.goto 4, 3) := by decide +kernel
theorem dX12_criticalStep_54 : decode cX12_criticalStep 54 = .ok (.iconst 0, 1) := by decide +kernel
theorem dX12_criticalStep_55 : decode cX12_criticalStep 55 = .ok (.istore 6, 2) := by decide +kernel
theorem dX12_criticalStep_57 : decode cX12_criticalStep 57 = .ok (.iload 6, 2) := by decide +kernel
theorem dX12_criticalStep_59 : decode cX12_criticalStep 59 = .ok (.ifCond .eq 30, 3) := by decide +kernel
theorem dX12_criticalStep_62 : decode cX12_criticalStep 62 = .ok (.iload 4, 2) := by decide +kernel
theorem dX12_criticalStep_64 : decode cX12_criticalStep 64 = .ok (.iconst (-1), 1) := by decide +kernel
theorem dX12_criticalStep_65 : decode cX12_criticalStep 65 = .ok (.if_icmp .eq 20, 3) := by decide +kernel
theorem dX12_criticalStep_68 : decode cX12_criticalStep 68 = .ok (.aload_n 0, 1) := by decide +kernel
theorem dX12_criticalStep_69 : decode cX12_criticalStep 69 = .ok (.getfield 42, 3) := by decide +kernel
theorem dX12_criticalStep_72 : decode cX12_criticalStep 72 = .ok (.iload 5, 2) := by decide +kernel
theorem dX12_criticalStep_74 : decode cX12_criticalStep 74 = .ok (.iaload, 1) := by decide +kernel
theorem dX12_criticalStep_75 : decode cX12_criticalStep 75 = .ok (.aload_n 0, 1) := by decide +kernel
theorem dX12_criticalStep_76 : decode cX12_criticalStep 76 = .ok (.getfield 42, 3) := by decide +kernel
theorem dX12_criticalStep_79 : decode cX12_criticalStep 79 = .ok (.iload 4, 2) := by decide +kernel
theorem dX12_criticalStep_81 : decode cX12_criticalStep 81 = .ok (.iaload, 1) := by decide +kernel
theorem dX12_criticalStep_82 : decode cX12_criticalStep 82 = .ok (.if_icmp .le 7, 3) := by decide +kernel
theorem dX12_criticalStep_85 : decode cX12_criticalStep 85 = .ok (.iload 5, 2) := by decide +kernel
theorem dX12_criticalStep_87 : decode cX12_criticalStep 87 = .ok (.istore 4, 2) := by decide +kernel
theorem dX12_criticalStep_89 : decode cX12_criticalStep 89 = .ok (.iinc 5 1, 3) := by decide +kernel
theorem dX12_criticalStep_92 : decode cX12_criticalStep 92 = .ok (.goto (-68), 3) := by decide +kernel
theorem dX12_criticalStep_95 : decode cX12_criticalStep 95 = .ok (.iload 4, 2) := by decide +kernel
theorem dX12_criticalStep_97 : decode cX12_criticalStep 97 = .ok (.iconst (-1), 1) := by decide +kernel
theorem dX12_criticalStep_98 : decode cX12_criticalStep 98 = .ok (.if_icmp .ne 5, 3) := by decide +kernel
theorem dX12_criticalStep_101 : decode cX12_criticalStep 101 = .ok (.iconst (-1), 1) := by decide +kernel
theorem dX12_criticalStep_102 : decode cX12_criticalStep 102 = .ok (.ireturn, 1) := by decide +kernel
theorem dX12_criticalStep_103 : decode cX12_criticalStep 103 = .ok (.iload 4, 2) := by decide +kernel
theorem dX12_criticalStep_105 : decode cX12_criticalStep 105 = .ok (.istore_n 2, 1) := by decide +kernel
theorem dX12_criticalStep_106 : decode cX12_criticalStep 106 = .ok (.iinc 3 1, 3) := by decide +kernel
theorem dX12_criticalStep_109 : decode cX12_criticalStep 109 = .ok (.goto (-96), 3) := by decide +kernel
theorem dX12_criticalStep_112 : decode cX12_criticalStep 112 = .ok (.iload_n 2, 1) := by decide +kernel
theorem dX12_criticalStep_113 : decode cX12_criticalStep 113 = .ok (.ireturn, 1) := by decide +kernel
set_option maxRecDepth 20000 in
theorem ggX12_slack_X12_isStep : GoodIn wsX12_slack wsX12_isStep := goodIn_r _ [7, 8, 9, 10, 6, 11, 37, 38, 39, 40, 41, 42, 43, 44, 45, 46, 47, 48, 49, 50, 51, 52, 53, 54, 55] rfl (by decide +kernel)
set_option maxRecDepth 20000 in
theorem gX12_slack_X12_isStep : GoodIn wsX12_slack (wsV RX12 304 RX12 yX12_isStep wsX12_isStep) := goodIn_app (goodIn_of _ (by decide +kernel)) ggX12_slack_X12_isStep
set_option maxRecDepth 20000 in
theorem ggX12_slack_X12_fails : GoodIn wsX12_slack wsX12_fails := goodIn_r _ [15, 16, 37, 38, 39, 40, 41, 42, 43, 44, 45, 46, 47, 48, 49, 50, 51, 52, 53, 54, 55] rfl (by decide +kernel)
set_option maxRecDepth 20000 in
theorem gX12_slack_X12_fails : GoodIn wsX12_slack (wsV RX12 167 RX12 yX12_fails wsX12_fails) := goodIn_app (goodIn_of _ (by decide +kernel)) ggX12_slack_X12_fails
set_option maxRecDepth 20000 in
theorem ggX12_slack_X12_computePaths : GoodIn wsX12_slack wsX12_computePaths := goodIn_r _ [20, 8, 1, 21, 22, 23, 6, 24, 25, 26, 27, 28, 37, 38, 39, 40, 41, 42, 43, 44, 45, 46, 47, 48, 49, 50, 51, 52, 53, 54, 55] rfl (by decide +kernel)
set_option maxRecDepth 20000 in
theorem gX12_slack_X12_computePaths : GoodIn wsX12_slack (wsV RX12 139 RX12 yX12_computePaths wsX12_computePaths) := goodIn_app (goodIn_of _ (by decide +kernel)) ggX12_slack_X12_computePaths
set_option maxRecDepth 20000 in
theorem ggX12_slack_X12_computeHeads : GoodIn wsX12_slack wsX12_computeHeads := goodIn_r _ [32, 8, 2, 25, 26, 27, 6, 28, 37, 38, 39, 40, 41, 42, 43, 44, 45, 46, 47, 48, 49, 50, 51, 52, 53, 54, 55] rfl (by decide +kernel)
set_option maxRecDepth 20000 in
theorem gX12_slack_X12_computeHeads : GoodIn wsX12_slack (wsV RX12 319 RX12 yX12_computeHeads wsX12_computeHeads) := goodIn_app (goodIn_of _ (by decide +kernel)) ggX12_slack_X12_computeHeads
set_option maxRecDepth 20000 in
theorem ggX12_slack_X12_longestPath : GoodIn wsX12_slack wsX12_longestPath := goodIn_r _ [36, 8, 1, 37, 38, 39, 40, 41, 42, 43, 44, 45, 46, 47, 48, 49, 50, 51, 52, 53, 54, 55] rfl (by decide +kernel)
set_option maxRecDepth 20000 in
theorem gX12_slack_X12_longestPath : GoodIn wsX12_slack (wsV RX12 322 RX12 yX12_longestPath wsX12_longestPath) := goodIn_app (goodIn_of _ (by decide +kernel)) ggX12_slack_X12_longestPath
theorem dX12_slack_0 : decode cX12_slack 0 = .ok (.aload_n 0, 1) := by decide +kernel
theorem dX12_slack_1 : decode cX12_slack 1 = .ok (.aload_n 0, 1) := by decide +kernel
theorem dX12_slack_2 : decode cX12_slack 2 = .ok (.iload_n 1, 1) := by decide +kernel
theorem dX12_slack_3 : decode cX12_slack 3 = .ok (.invokevirtual 304, 3) := by decide +kernel
theorem dX12_slack_6 : decode cX12_slack 6 = .ok (.ifCond .ne 7, 3) := by decide +kernel
theorem dX12_slack_9 : decode cX12_slack 9 = .ok (.iconst 1, 1) := by decide +kernel
theorem dX12_slack_10 : decode cX12_slack 10 = .ok (.goto 4, 3) := by decide +kernel
theorem dX12_slack_13 : decode cX12_slack 13 = .ok (.iconst 0, 1) := by decide +kernel
theorem dX12_slack_14 : decode cX12_slack 14 = .ok (.iconst 0, 1) := by decide +kernel
theorem dX12_slack_15 : decode cX12_slack 15 = .ok (.iconst 0, 1) := by decide +kernel
theorem dX12_slack_16 : decode cX12_slack 16 = .ok (.invokevirtual 167, 3) := by decide +kernel
theorem dX12_slack_19 : decode cX12_slack 19 = .ok (.ifCond .eq 5, 3) := by decide +kernel
theorem dX12_slack_22 : decode cX12_slack 22 = .ok (.iconst 0, 1) := by decide +kernel
theorem dX12_slack_23 : decode cX12_slack 23 = .ok (.ireturn, 1) := by decide +kernel
theorem dX12_slack_24 : decode cX12_slack 24 = .ok (.aload_n 0, 1) := by decide +kernel
theorem dX12_slack_25 : decode cX12_slack 25 = .ok (.invokevirtual 139, 3) := by decide +kernel
theorem dX12_slack_28 : decode cX12_slack 28 = .ok (.aload_n 0, 1) := by decide +kernel
theorem dX12_slack_29 : decode cX12_slack 29 = .ok (.invokevirtual 319, 3) := by decide +kernel
theorem dX12_slack_32 : decode cX12_slack 32 = .ok (.aload_n 0, 1) := by decide +kernel
theorem dX12_slack_33 : decode cX12_slack 33 = .ok (.invokevirtual 322, 3) := by decide +kernel
theorem dX12_slack_36 : decode cX12_slack 36 = .ok (.aload_n 0, 1) := by decide +kernel
theorem dX12_slack_37 : decode cX12_slack 37 = .ok (.getfield 42, 3) := by decide +kernel
theorem dX12_slack_40 : decode cX12_slack 40 = .ok (.iload_n 1, 1) := by decide +kernel
theorem dX12_slack_41 : decode cX12_slack 41 = .ok (.iaload, 1) := by decide +kernel
theorem dX12_slack_42 : decode cX12_slack 42 = .ok (.isub, 1) := by decide +kernel
theorem dX12_slack_43 : decode cX12_slack 43 = .ok (.aload_n 0, 1) := by decide +kernel
theorem dX12_slack_44 : decode cX12_slack 44 = .ok (.getfield 45, 3) := by decide +kernel
theorem dX12_slack_47 : decode cX12_slack 47 = .ok (.iload_n 1, 1) := by decide +kernel
theorem dX12_slack_48 : decode cX12_slack 48 = .ok (.iaload, 1) := by decide +kernel
theorem dX12_slack_49 : decode cX12_slack 49 = .ok (.isub, 1) := by decide +kernel
theorem dX12_slack_50 : decode cX12_slack 50 = .ok (.ireturn, 1) := by decide +kernel
set_option maxRecDepth 20000 in
theorem ggX12_simulate_X12_isFinished : GoodIn wsX12_simulate wsX12_isFinished := goodIn_r _ [5, 6, 7, 8, 9, 4, 10, 11, 12, 13, 14, 89, 90, 91, 92, 93, 94, 95, 96, 97, 98, 99, 100, 101, 102, 103, 104, 105, 106, 107] rfl (by decide +kernel)
set_option maxRecDepth 20000 in
theorem gX12_simulate_X12_isFinished : GoodIn wsX12_simulate (wsV RX12 161 RX12 yX12_isFinished wsX12_isFinished) := goodIn_app (goodIn_of _ (by decide +kernel)) ggX12_simulate_X12_isFinished
set_option maxRecDepth 20000 in
theorem ggX12_simulate_X12_passMinute : GoodIn wsX12_simulate wsX12_passMinute := goodIn_r _ [18, 6, 19, 20, 21, 22, 4, 23, 24, 25, 26, 27, 11, 12, 13, 14, 28, 29, 30, 31, 32, 33, 34, 35, 36, 37, 38, 39, 40, 41, 42, 43, 44, 45, 46, 47, 48, 49, 50, 51, 52, 53, 54, 55, 56, 57, 58, 59, 60, 61, 62, 63, 64, 65, 66, 67, 68, 69, 70, 71, 72, 73, 74, 75, 76, 77, 78, 79, 80, 81, 82, 83, 84, 85, 86, 87, 88, 89, 90, 91, 92, 93, 94, 95, 96, 97, 98, 99, 100, 101, 102, 103, 104, 105, 106, 107] rfl (by decide +kernel)
set_option maxRecDepth 20000 in
theorem gX12_simulate_X12_passMinute : GoodIn wsX12_simulate (wsV RX12 158 RX12 yX12_passMinute wsX12_passMinute) := goodIn_app (goodIn_of _ (by decide +kernel)) ggX12_simulate_X12_passMinute
theorem dX12_simulate_0 : decode cX12_simulate 0 = .ok (.iconst 0, 1) := by decide +kernel
theorem dX12_simulate_1 : decode cX12_simulate 1 = .ok (.istore_n 1, 1) := by decide +kernel
theorem dX12_simulate_2 : decode cX12_simulate 2 = .ok (.iload_n 1, 1) := by decide +kernel
theorem dX12_simulate_3 : decode cX12_simulate 3 = .ok (.sipush 500, 3) := by decide +kernel
theorem dX12_simulate_6 : decode cX12_simulate 6 = .ok (.if_icmp .ge 20, 3) := by decide +kernel
theorem dX12_simulate_9 : decode cX12_simulate 9 = .ok (.aload_n 0, 1) := by decide +kernel
theorem dX12_simulate_10 : decode cX12_simulate 10 = .ok (.invokevirtual 161, 3) := by decide +kernel
theorem dX12_simulate_13 : decode cX12_simulate 13 = .ok (.ifCond .ne 13, 3) := by decide +kernel
theorem dX12_simulate_16 : decode cX12_simulate 16 = .ok (.aload_n 0, 1) := by decide +kernel
theorem dX12_simulate_17 : decode cX12_simulate 17 = .ok (.invokevirtual 158, 3) := by decide +kernel
theorem dX12_simulate_20 : decode cX12_simulate 20 = .ok (.iinc 1 1, 3) := by decide +kernel
theorem dX12_simulate_23 : decode cX12_simulate 23 = .ok (.goto (-21), 3) := by decide +kernel
theorem dX12_simulate_26 : decode cX12_simulate 26 = .ok (.aload_n 0, 1) := by decide +kernel
theorem dX12_simulate_27 : decode cX12_simulate 27 = .ok (.invokevirtual 161, 3) := by decide +kernel
theorem dX12_simulate_30 : decode cX12_simulate 30 = .ok (.ifCond .eq 7, 3) := by decide +kernel
theorem dX12_simulate_33 : decode cX12_simulate 33 = .ok (.iload_n 1, 1) := by decide +kernel
theorem dX12_simulate_34 : decode cX12_simulate 34 = .ok (.goto 4, 3) := by decide +kernel
theorem dX12_simulate_37 : decode cX12_simulate 37 = .ok (.iconst (-1), 1) := by decide +kernel
theorem dX12_simulate_38 : decode cX12_simulate 38 = .ok (.ireturn, 1) := by decide +kernel
set_option maxRecDepth 20000 in
theorem ggX12_minutesToFinish_X12_copyBlock : GoodIn wsX12_minutesToFinish wsX12_copyBlock := goodIn_r _ [6, 7, 98, 99, 100, 101, 102, 103, 104, 105, 106, 107, 108, 109, 110, 111, 112, 113, 114, 115, 116] rfl (by decide +kernel)
set_option maxRecDepth 20000 in
theorem gX12_minutesToFinish_X12_copyBlock : GoodIn wsX12_minutesToFinish (wsV RX12 91 RX12 yX12_copyBlock wsX12_copyBlock) := goodIn_app (goodIn_of _ (by decide +kernel)) ggX12_minutesToFinish_X12_copyBlock
set_option maxRecDepth 20000 in
theorem ggX12_minutesToFinish_X12_simulate : GoodIn wsX12_minutesToFinish wsX12_simulate := goodIn_r _ [11, 12, 13, 14, 5, 15, 7, 16, 17, 18, 19, 20, 21, 22, 23, 24, 25, 26, 27, 28, 29, 30, 31, 32, 33, 34, 35, 36, 37, 38, 39, 40, 41, 42, 43, 44, 45, 46, 47, 48, 49, 50, 51, 52, 53, 54, 55, 56, 57, 58, 59, 60, 61, 62, 63, 64, 65, 66, 67, 68, 69, 70, 71, 72, 73, 74, 75, 76, 77, 78, 79, 80, 81, 82, 83, 84, 85, 86, 87, 88, 89, 90, 91, 92, 93, 94, 95, 96, 97, 98, 99, 100, 101, 102, 103, 104, 105, 106, 107, 108, 109, 110, 111, 112, 113, 114, 115, 116] rfl (by decide +kernel)
set_option maxRecDepth 20000 in
theorem gX12_minutesToFinish_X12_simulate : GoodIn wsX12_minutesToFinish (wsV RX12 325 RX12 yX12_simulate wsX12_simulate) := goodIn_app (goodIn_of _ (by decide +kernel)) ggX12_minutesToFinish_X12_simulate
theorem dX12_minutesToFinish_0 : decode cX12_minutesToFinish 0 = .ok (.aload_n 0, 1) := by decide +kernel
theorem dX12_minutesToFinish_1 : decode cX12_minutesToFinish 1 = .ok (.iconst 0, 1) := by decide +kernel
theorem dX12_minutesToFinish_2 : decode cX12_minutesToFinish 2 = .ok (.putfield 1, 3) := by decide +kernel
theorem dX12_minutesToFinish_5 : decode cX12_minutesToFinish 5 = .ok (.aload_n 0, 1) := by decide +kernel
theorem dX12_minutesToFinish_6 : decode cX12_minutesToFinish 6 = .ok (.iconst 0, 1) := by decide +kernel
theorem dX12_minutesToFinish_7 : decode cX12_minutesToFinish 7 = .ok (.bipush 9, 2) := by decide +kernel
theorem dX12_minutesToFinish_9 : decode cX12_minutesToFinish 9 = .ok (.invokevirtual 91, 3) := by decide +kernel
theorem dX12_minutesToFinish_12 : decode cX12_minutesToFinish 12 = .ok (.aload_n 0, 1) := by decide +kernel
theorem dX12_minutesToFinish_13 : decode cX12_minutesToFinish 13 = .ok (.invokevirtual 325, 3) := by decide +kernel
theorem dX12_minutesToFinish_16 : decode cX12_minutesToFinish 16 = .ok (.istore_n 1, 1) := by decide +kernel
theorem dX12_minutesToFinish_17 : decode cX12_minutesToFinish 17 = .ok (.aload_n 0, 1) := by decide +kernel
theorem dX12_minutesToFinish_18 : decode cX12_minutesToFinish 18 = .ok (.bipush 9, 2) := by decide +kernel
theorem dX12_minutesToFinish_20 : decode cX12_minutesToFinish 20 = .ok (.iconst 0, 1) := by decide +kernel
theorem dX12_minutesToFinish_21 : decode cX12_minutesToFinish 21 = .ok (.invokevirtual 91, 3) := by decide +kernel
theorem dX12_minutesToFinish_24 : decode cX12_minutesToFinish 24 = .ok (.iload_n 1, 1) := by decide +kernel
theorem dX12_minutesToFinish_25 : decode cX12_minutesToFinish 25 = .ok (.ireturn, 1) := by decide +kernel
set_option maxRecDepth 20000 in
theorem ggX12_statusAfter_X12_isStep : GoodIn wsX12_statusAfter wsX12_isStep := goodIn_r _ [5, 6, 7, 8, 4, 9, 101, 102, 103, 104, 105, 106, 107, 108, 109, 110, 111, 112, 113, 114, 115, 116, 117, 118, 119] rfl (by decide +kernel)
set_option maxRecDepth 20000 in
theorem gX12_statusAfter_X12_isStep : GoodIn wsX12_statusAfter (wsV RX12 304 RX12 yX12_isStep wsX12_isStep) := goodIn_app (goodIn_of _ (by decide +kernel)) ggX12_statusAfter_X12_isStep
set_option maxRecDepth 20000 in
theorem ggX12_statusAfter_X12_in : GoodIn wsX12_statusAfter wsX12_in := goodIn_r _ [9] rfl (by decide +kernel)
set_option maxRecDepth 20000 in
theorem gX12_statusAfter_X12_in : GoodIn wsX12_statusAfter (va_wsS RX12 87 yX12_in wsX12_in) := goodIn_app (goodIn_of _ (by decide +kernel)) ggX12_statusAfter_X12_in
set_option maxRecDepth 20000 in
theorem ggX12_statusAfter_X12_fails : GoodIn wsX12_statusAfter wsX12_fails := goodIn_r _ [13, 14, 101, 102, 103, 104, 105, 106, 107, 108, 109, 110, 111, 112, 113, 114, 115, 116, 117, 118, 119] rfl (by decide +kernel)
set_option maxRecDepth 20000 in
theorem gX12_statusAfter_X12_fails : GoodIn wsX12_statusAfter (wsV RX12 167 RX12 yX12_fails wsX12_fails) := goodIn_app (goodIn_of _ (by decide +kernel)) ggX12_statusAfter_X12_fails
set_option maxRecDepth 20000 in
theorem ggX12_statusAfter_X12_copyBlock : GoodIn wsX12_statusAfter wsX12_copyBlock := goodIn_r _ [18, 6, 101, 102, 103, 104, 105, 106, 107, 108, 109, 110, 111, 112, 113, 114, 115, 116, 117, 118, 119] rfl (by decide +kernel)
set_option maxRecDepth 20000 in
theorem gX12_statusAfter_X12_copyBlock : GoodIn wsX12_statusAfter (wsV RX12 91 RX12 yX12_copyBlock wsX12_copyBlock) := goodIn_app (goodIn_of _ (by decide +kernel)) ggX12_statusAfter_X12_copyBlock
set_option maxRecDepth 20000 in
theorem ggX12_statusAfter_X12_passMinutes : GoodIn wsX12_statusAfter wsX12_passMinutes := goodIn_r _ [22, 6, 23, 24, 25, 4, 26, 27, 28, 29, 30, 31, 32, 33, 34, 35, 36, 37, 38, 39, 40, 41, 42, 43, 44, 45, 46, 47, 48, 49, 50, 51, 52, 53, 54, 55, 56, 57, 58, 59, 60, 61, 62, 63, 64, 65, 66, 67, 68, 69, 70, 71, 72, 73, 74, 75, 76, 77, 78, 79, 80, 81, 82, 83, 84, 85, 86, 87, 88, 89, 90, 91, 92, 93, 94, 95, 96, 97, 98, 99, 100, 101, 102, 103, 104, 105, 106, 107, 108, 109, 110, 111, 112, 113, 114, 115, 116, 117, 118, 119] rfl (by decide +kernel)
set_option maxRecDepth 20000 in
theorem gX12_statusAfter_X12_passMinutes : GoodIn wsX12_statusAfter (wsV RX12 277 RX12 yX12_passMinutes wsX12_passMinutes) := goodIn_app (goodIn_of _ (by decide +kernel)) ggX12_statusAfter_X12_passMinutes
set_option maxRecDepth 20000 in
theorem ggX12_statusAfter_X12_of : GoodIn wsX12_statusAfter wsX12_of := goodIn_r _ [39, 6, 101, 102, 103, 104, 105, 106, 107, 108, 109, 110, 111, 112, 113, 114, 115, 116, 117, 118, 119] rfl (by decide +kernel)
set_option maxRecDepth 20000 in
theorem gX12_statusAfter_X12_of : GoodIn wsX12_statusAfter (wsV RX12 95 RX12 yX12_of wsX12_of) := goodIn_app (goodIn_of _ (by decide +kernel)) ggX12_statusAfter_X12_of
theorem dX12_statusAfter_0 : decode cX12_statusAfter 0 = .ok (.aload_n 0, 1) := by decide +kernel
theorem dX12_statusAfter_1 : decode cX12_statusAfter 1 = .ok (.aload_n 0, 1) := by decide +kernel
theorem dX12_statusAfter_2 : decode cX12_statusAfter 2 = .ok (.iload_n 1, 1) := by decide +kernel
theorem dX12_statusAfter_3 : decode cX12_statusAfter 3 = .ok (.invokevirtual 304, 3) := by decide +kernel
theorem dX12_statusAfter_6 : decode cX12_statusAfter 6 = .ok (.ifCond .ne 7, 3) := by decide +kernel
theorem dX12_statusAfter_9 : decode cX12_statusAfter 9 = .ok (.iconst 1, 1) := by decide +kernel
theorem dX12_statusAfter_10 : decode cX12_statusAfter 10 = .ok (.goto 4, 3) := by decide +kernel
theorem dX12_statusAfter_13 : decode cX12_statusAfter 13 = .ok (.iconst 0, 1) := by decide +kernel
theorem dX12_statusAfter_14 : decode cX12_statusAfter 14 = .ok (.iload_n 2, 1) := by decide +kernel
theorem dX12_statusAfter_15 : decode cX12_statusAfter 15 = .ok (.iconst 0, 1) := by decide +kernel
theorem dX12_statusAfter_16 : decode cX12_statusAfter 16 = .ok (.sipush 500, 3) := by decide +kernel
theorem dX12_statusAfter_19 : decode cX12_statusAfter 19 = .ok (.invokestatic 87, 3) := by decide +kernel
theorem dX12_statusAfter_22 : decode cX12_statusAfter 22 = .ok (.ifCond .ne 7, 3) := by decide +kernel
theorem dX12_statusAfter_25 : decode cX12_statusAfter 25 = .ok (.iconst 1, 1) := by decide +kernel
theorem dX12_statusAfter_26 : decode cX12_statusAfter 26 = .ok (.goto 4, 3) := by decide +kernel
theorem dX12_statusAfter_29 : decode cX12_statusAfter 29 = .ok (.iconst 0, 1) := by decide +kernel
theorem dX12_statusAfter_30 : decode cX12_statusAfter 30 = .ok (.iconst 0, 1) := by decide +kernel
theorem dX12_statusAfter_31 : decode cX12_statusAfter 31 = .ok (.invokevirtual 167, 3) := by decide +kernel
theorem dX12_statusAfter_34 : decode cX12_statusAfter 34 = .ok (.ifCond .eq 5, 3) := by decide +kernel
theorem dX12_statusAfter_37 : decode cX12_statusAfter 37 = .ok (.iconst 0, 1) := by decide +kernel
theorem dX12_statusAfter_38 : decode cX12_statusAfter 38 = .ok (.ireturn, 1) := by decide +kernel
theorem dX12_statusAfter_39 : decode cX12_statusAfter 39 = .ok (.aload_n 0, 1) := by decide +kernel
theorem dX12_statusAfter_40 : decode cX12_statusAfter 40 = .ok (.iconst 0, 1) := by decide +kernel
theorem dX12_statusAfter_41 : decode cX12_statusAfter 41 = .ok (.bipush 9, 2) := by decide +kernel
theorem dX12_statusAfter_43 : decode cX12_statusAfter 43 = .ok (.invokevirtual 91, 3) := by decide +kernel
theorem dX12_statusAfter_46 : decode cX12_statusAfter 46 = .ok (.aload_n 0, 1) := by decide +kernel
theorem dX12_statusAfter_47 : decode cX12_statusAfter 47 = .ok (.iload_n 2, 1) := by decide +kernel
theorem dX12_statusAfter_48 : decode cX12_statusAfter 48 = .ok (.invokevirtual 277, 3) := by decide +kernel
theorem dX12_statusAfter_51 : decode cX12_statusAfter 51 = .ok (.pop, 1) := by decide +kernel
theorem dX12_statusAfter_52 : decode cX12_statusAfter 52 = .ok (.aload_n 0, 1) := by decide +kernel
theorem dX12_statusAfter_53 : decode cX12_statusAfter 53 = .ok (.iload_n 1, 1) := by decide +kernel
theorem dX12_statusAfter_54 : decode cX12_statusAfter 54 = .ok (.bipush 17, 2) := by decide +kernel
theorem dX12_statusAfter_56 : decode cX12_statusAfter 56 = .ok (.invokevirtual 95, 3) := by decide +kernel
theorem dX12_statusAfter_59 : decode cX12_statusAfter 59 = .ok (.istore_n 3, 1) := by decide +kernel
theorem dX12_statusAfter_60 : decode cX12_statusAfter 60 = .ok (.aload_n 0, 1) := by decide +kernel
theorem dX12_statusAfter_61 : decode cX12_statusAfter 61 = .ok (.bipush 9, 2) := by decide +kernel
theorem dX12_statusAfter_63 : decode cX12_statusAfter 63 = .ok (.iconst 0, 1) := by decide +kernel
theorem dX12_statusAfter_64 : decode cX12_statusAfter 64 = .ok (.invokevirtual 91, 3) := by decide +kernel
theorem dX12_statusAfter_67 : decode cX12_statusAfter 67 = .ok (.iload_n 3, 1) := by decide +kernel
theorem dX12_statusAfter_68 : decode cX12_statusAfter 68 = .ok (.ireturn, 1) := by decide +kernel
set_option maxRecDepth 20000 in
theorem ggX12_minutesToBurn_X12_isStep : GoodIn wsX12_minutesToBurn wsX12_isStep := goodIn_r _ [5, 6, 7, 8, 4, 9, 97, 98, 99, 100, 101, 102, 103, 104, 105, 106, 107, 108, 109, 110, 111, 112, 113, 114, 115] rfl (by decide +kernel)
set_option maxRecDepth 20000 in
theorem gX12_minutesToBurn_X12_isStep : GoodIn wsX12_minutesToBurn (wsV RX12 304 RX12 yX12_isStep wsX12_isStep) := goodIn_app (goodIn_of _ (by decide +kernel)) ggX12_minutesToBurn_X12_isStep
set_option maxRecDepth 20000 in
theorem ggX12_minutesToBurn_X12_fails : GoodIn wsX12_minutesToBurn wsX12_fails := goodIn_r _ [13, 14, 97, 98, 99, 100, 101, 102, 103, 104, 105, 106, 107, 108, 109, 110, 111, 112, 113, 114, 115] rfl (by decide +kernel)
set_option maxRecDepth 20000 in
theorem gX12_minutesToBurn_X12_fails : GoodIn wsX12_minutesToBurn (wsV RX12 167 RX12 yX12_fails wsX12_fails) := goodIn_app (goodIn_of _ (by decide +kernel)) ggX12_minutesToBurn_X12_fails
set_option maxRecDepth 20000 in
theorem ggX12_minutesToBurn_X12_copyBlock : GoodIn wsX12_minutesToBurn wsX12_copyBlock := goodIn_r _ [18, 6, 97, 98, 99, 100, 101, 102, 103, 104, 105, 106, 107, 108, 109, 110, 111, 112, 113, 114, 115] rfl (by decide +kernel)
set_option maxRecDepth 20000 in
theorem gX12_minutesToBurn_X12_copyBlock : GoodIn wsX12_minutesToBurn (wsV RX12 91 RX12 yX12_copyBlock wsX12_copyBlock) := goodIn_app (goodIn_of _ (by decide +kernel)) ggX12_minutesToBurn_X12_copyBlock
set_option maxRecDepth 20000 in
theorem ggX12_minutesToBurn_X12_of : GoodIn wsX12_minutesToBurn wsX12_of := goodIn_r _ [22, 6, 97, 98, 99, 100, 101, 102, 103, 104, 105, 106, 107, 108, 109, 110, 111, 112, 113, 114, 115] rfl (by decide +kernel)
set_option maxRecDepth 20000 in
theorem gX12_minutesToBurn_X12_of : GoodIn wsX12_minutesToBurn (wsV RX12 95 RX12 yX12_of wsX12_of) := goodIn_app (goodIn_of _ (by decide +kernel)) ggX12_minutesToBurn_X12_of
set_option maxRecDepth 20000 in
theorem ggX12_minutesToBurn_X12_passMinute : GoodIn wsX12_minutesToBurn wsX12_passMinute := goodIn_r _ [26, 6, 27, 28, 29, 30, 4, 31, 32, 33, 34, 35, 19, 20, 21, 22, 36, 37, 38, 39, 40, 41, 42, 43, 44, 45, 46, 47, 48, 49, 50, 51, 52, 53, 54, 55, 56, 57, 58, 59, 60, 61, 62, 63, 64, 65, 66, 67, 68, 69, 70, 71, 72, 73, 74, 75, 76, 77, 78, 79, 80, 81, 82, 83, 84, 85, 86, 87, 88, 89, 90, 91, 92, 93, 94, 95, 96, 97, 98, 99, 100, 101, 102, 103, 104, 105, 106, 107, 108, 109, 110, 111, 112, 113, 114, 115] rfl (by decide +kernel)
set_option maxRecDepth 20000 in
theorem gX12_minutesToBurn_X12_passMinute : GoodIn wsX12_minutesToBurn (wsV RX12 158 RX12 yX12_passMinute wsX12_passMinute) := goodIn_app (goodIn_of _ (by decide +kernel)) ggX12_minutesToBurn_X12_passMinute
theorem dX12_minutesToBurn_0 : decode cX12_minutesToBurn 0 = .ok (.aload_n 0, 1) := by decide +kernel
theorem dX12_minutesToBurn_1 : decode cX12_minutesToBurn 1 = .ok (.aload_n 0, 1) := by decide +kernel
theorem dX12_minutesToBurn_2 : decode cX12_minutesToBurn 2 = .ok (.iload_n 1, 1) := by decide +kernel
theorem dX12_minutesToBurn_3 : decode cX12_minutesToBurn 3 = .ok (.invokevirtual 304, 3) := by decide +kernel
theorem dX12_minutesToBurn_6 : decode cX12_minutesToBurn 6 = .ok (.ifCond .ne 7, 3) := by decide +kernel
theorem dX12_minutesToBurn_9 : decode cX12_minutesToBurn 9 = .ok (.iconst 1, 1) := by decide +kernel
theorem dX12_minutesToBurn_10 : decode cX12_minutesToBurn 10 = .ok (.goto 4, 3) := by decide +kernel
theorem dX12_minutesToBurn_13 : decode cX12_minutesToBurn 13 = .ok (.iconst 0, 1) := by decide +kernel
theorem dX12_minutesToBurn_14 : decode cX12_minutesToBurn 14 = .ok (.iconst 0, 1) := by decide +kernel
theorem dX12_minutesToBurn_15 : decode cX12_minutesToBurn 15 = .ok (.iconst 0, 1) := by decide +kernel
theorem dX12_minutesToBurn_16 : decode cX12_minutesToBurn 16 = .ok (.invokevirtual 167, 3) := by decide +kernel
theorem dX12_minutesToBurn_19 : decode cX12_minutesToBurn 19 = .ok (.ifCond .eq 5, 3) := by decide +kernel
theorem dX12_minutesToBurn_22 : decode cX12_minutesToBurn 22 = .ok (.iconst 0, 1) := by decide +kernel
theorem dX12_minutesToBurn_23 : decode cX12_minutesToBurn 23 = .ok (.ireturn, 1) := by decide +kernel
theorem dX12_minutesToBurn_24 : decode cX12_minutesToBurn 24 = .ok (.aload_n 0, 1) := by decide +kernel
theorem dX12_minutesToBurn_25 : decode cX12_minutesToBurn 25 = .ok (.iconst 0, 1) := by decide +kernel
theorem dX12_minutesToBurn_26 : decode cX12_minutesToBurn 26 = .ok (.bipush 9, 2) := by decide +kernel
theorem dX12_minutesToBurn_28 : decode cX12_minutesToBurn 28 = .ok (.invokevirtual 91, 3) := by decide +kernel
theorem dX12_minutesToBurn_31 : decode cX12_minutesToBurn 31 = .ok (.aload_n 0, 1) := by decide +kernel
theorem dX12_minutesToBurn_32 : decode cX12_minutesToBurn 32 = .ok (.iload_n 1, 1) := by decide +kernel
theorem dX12_minutesToBurn_33 : decode cX12_minutesToBurn 33 = .ok (.bipush 22, 2) := by decide +kernel
theorem dX12_minutesToBurn_35 : decode cX12_minutesToBurn 35 = .ok (.invokevirtual 95, 3) := by decide +kernel
theorem dX12_minutesToBurn_38 : decode cX12_minutesToBurn 38 = .ok (.istore_n 2, 1) := by decide +kernel
theorem dX12_minutesToBurn_39 : decode cX12_minutesToBurn 39 = .ok (.iconst 0, 1) := by decide +kernel
theorem dX12_minutesToBurn_40 : decode cX12_minutesToBurn 40 = .ok (.istore_n 3, 1) := by decide +kernel
theorem dX12_minutesToBurn_41 : decode cX12_minutesToBurn 41 = .ok (.iload_n 3, 1) := by decide +kernel
theorem dX12_minutesToBurn_42 : decode cX12_minutesToBurn 42 = .ok (.sipush 500, 3) := by decide +kernel
theorem dX12_minutesToBurn_45 : decode cX12_minutesToBurn 45 = .ok (.if_icmp .ge 24, 3) := by decide +kernel
theorem dX12_minutesToBurn_48 : decode cX12_minutesToBurn 48 = .ok (.aload_n 0, 1) := by decide +kernel
theorem dX12_minutesToBurn_49 : decode cX12_minutesToBurn 49 = .ok (.iload_n 1, 1) := by decide +kernel
theorem dX12_minutesToBurn_50 : decode cX12_minutesToBurn 50 = .ok (.bipush 22, 2) := by decide +kernel
theorem dX12_minutesToBurn_52 : decode cX12_minutesToBurn 52 = .ok (.invokevirtual 95, 3) := by decide +kernel
theorem dX12_minutesToBurn_55 : decode cX12_minutesToBurn 55 = .ok (.iload_n 2, 1) := by decide +kernel
theorem dX12_minutesToBurn_56 : decode cX12_minutesToBurn 56 = .ok (.if_icmp .ne 13, 3) := by decide +kernel
theorem dX12_minutesToBurn_59 : decode cX12_minutesToBurn 59 = .ok (.aload_n 0, 1) := by decide +kernel
theorem dX12_minutesToBurn_60 : decode cX12_minutesToBurn 60 = .ok (.invokevirtual 158, 3) := by decide +kernel
theorem dX12_minutesToBurn_63 : decode cX12_minutesToBurn 63 = .ok (.iinc 3 1, 3) := by decide +kernel
theorem dX12_minutesToBurn_66 : decode cX12_minutesToBurn 66 = .ok (.goto (-25), 3) := by decide +kernel
theorem dX12_minutesToBurn_69 : decode cX12_minutesToBurn 69 = .ok (.aload_n 0, 1) := by decide +kernel
theorem dX12_minutesToBurn_70 : decode cX12_minutesToBurn 70 = .ok (.iload_n 1, 1) := by decide +kernel
theorem dX12_minutesToBurn_71 : decode cX12_minutesToBurn 71 = .ok (.bipush 22, 2) := by decide +kernel
theorem dX12_minutesToBurn_73 : decode cX12_minutesToBurn 73 = .ok (.invokevirtual 95, 3) := by decide +kernel
theorem dX12_minutesToBurn_76 : decode cX12_minutesToBurn 76 = .ok (.iload_n 2, 1) := by decide +kernel
theorem dX12_minutesToBurn_77 : decode cX12_minutesToBurn 77 = .ok (.if_icmp .le 7, 3) := by decide +kernel
theorem dX12_minutesToBurn_80 : decode cX12_minutesToBurn 80 = .ok (.iconst 1, 1) := by decide +kernel
theorem dX12_minutesToBurn_81 : decode cX12_minutesToBurn 81 = .ok (.goto 4, 3) := by decide +kernel
theorem dX12_minutesToBurn_84 : decode cX12_minutesToBurn 84 = .ok (.iconst 0, 1) := by decide +kernel
theorem dX12_minutesToBurn_85 : decode cX12_minutesToBurn 85 = .ok (.istore 4, 2) := by decide +kernel
theorem dX12_minutesToBurn_87 : decode cX12_minutesToBurn 87 = .ok (.aload_n 0, 1) := by decide +kernel
theorem dX12_minutesToBurn_88 : decode cX12_minutesToBurn 88 = .ok (.bipush 9, 2) := by decide +kernel
theorem dX12_minutesToBurn_90 : decode cX12_minutesToBurn 90 = .ok (.iconst 0, 1) := by decide +kernel
theorem dX12_minutesToBurn_91 : decode cX12_minutesToBurn 91 = .ok (.invokevirtual 91, 3) := by decide +kernel
theorem dX12_minutesToBurn_94 : decode cX12_minutesToBurn 94 = .ok (.iload 4, 2) := by decide +kernel
theorem dX12_minutesToBurn_96 : decode cX12_minutesToBurn 96 = .ok (.ifCond .eq 7, 3) := by decide +kernel
theorem dX12_minutesToBurn_99 : decode cX12_minutesToBurn 99 = .ok (.iload_n 3, 1) := by decide +kernel
theorem dX12_minutesToBurn_100 : decode cX12_minutesToBurn 100 = .ok (.goto 4, 3) := by decide +kernel
theorem dX12_minutesToBurn_103 : decode cX12_minutesToBurn 103 = .ok (.iconst (-1), 1) := by decide +kernel
theorem dX12_minutesToBurn_104 : decode cX12_minutesToBurn 104 = .ok (.ireturn, 1) := by decide +kernel
set_option maxRecDepth 20000 in
theorem ggX12_finishWith_X12_copyBlock : GoodIn wsX12_finishWith wsX12_copyBlock := goodIn_r _ [6, 1, 97, 98, 99, 100, 101, 102, 103, 104, 105, 106, 107, 108, 109, 110, 111, 112, 113, 114, 115] rfl (by decide +kernel)
set_option maxRecDepth 20000 in
theorem gX12_finishWith_X12_copyBlock : GoodIn wsX12_finishWith (wsV RX12 91 RX12 yX12_copyBlock wsX12_copyBlock) := goodIn_app (goodIn_of _ (by decide +kernel)) ggX12_finishWith_X12_copyBlock
set_option maxRecDepth 20000 in
theorem ggX12_finishWith_X12_simulate : GoodIn wsX12_finishWith wsX12_simulate := goodIn_r _ [10, 11, 12, 13, 5, 14, 1, 15, 16, 17, 18, 19, 20, 21, 22, 23, 24, 25, 26, 27, 28, 29, 30, 31, 32, 33, 34, 35, 36, 37, 38, 39, 40, 41, 42, 43, 44, 45, 46, 47, 48, 49, 50, 51, 52, 53, 54, 55, 56, 57, 58, 59, 60, 61, 62, 63, 64, 65, 66, 67, 68, 69, 70, 71, 72, 73, 74, 75, 76, 77, 78, 79, 80, 81, 82, 83, 84, 85, 86, 87, 88, 89, 90, 91, 92, 93, 94, 95, 96, 97, 98, 99, 100, 101, 102, 103, 104, 105, 106, 107, 108, 109, 110, 111, 112, 113, 114, 115] rfl (by decide +kernel)
set_option maxRecDepth 20000 in
theorem gX12_finishWith_X12_simulate : GoodIn wsX12_finishWith (wsV RX12 325 RX12 yX12_simulate wsX12_simulate) := goodIn_app (goodIn_of _ (by decide +kernel)) ggX12_finishWith_X12_simulate
theorem dX12_finishWith_0 : decode cX12_finishWith 0 = .ok (.aload_n 0, 1) := by decide +kernel
theorem dX12_finishWith_1 : decode cX12_finishWith 1 = .ok (.iconst 0, 1) := by decide +kernel
theorem dX12_finishWith_2 : decode cX12_finishWith 2 = .ok (.bipush 9, 2) := by decide +kernel
theorem dX12_finishWith_4 : decode cX12_finishWith 4 = .ok (.invokevirtual 91, 3) := by decide +kernel
theorem dX12_finishWith_7 : decode cX12_finishWith 7 = .ok (.aload_n 0, 1) := by decide +kernel
theorem dX12_finishWith_8 : decode cX12_finishWith 8 = .ok (.getfield 13, 3) := by decide +kernel
theorem dX12_finishWith_11 : decode cX12_finishWith 11 = .ok (.iconst 0, 1) := by decide +kernel
theorem dX12_finishWith_12 : decode cX12_finishWith 12 = .ok (.iload_n 1, 1) := by decide +kernel
theorem dX12_finishWith_13 : decode cX12_finishWith 13 = .ok (.iastore, 1) := by decide +kernel
theorem dX12_finishWith_14 : decode cX12_finishWith 14 = .ok (.aload_n 0, 1) := by decide +kernel
theorem dX12_finishWith_15 : decode cX12_finishWith 15 = .ok (.invokevirtual 325, 3) := by decide +kernel
theorem dX12_finishWith_18 : decode cX12_finishWith 18 = .ok (.istore_n 2, 1) := by decide +kernel
theorem dX12_finishWith_19 : decode cX12_finishWith 19 = .ok (.aload_n 0, 1) := by decide +kernel
theorem dX12_finishWith_20 : decode cX12_finishWith 20 = .ok (.bipush 9, 2) := by decide +kernel
theorem dX12_finishWith_22 : decode cX12_finishWith 22 = .ok (.iconst 0, 1) := by decide +kernel
theorem dX12_finishWith_23 : decode cX12_finishWith 23 = .ok (.invokevirtual 91, 3) := by decide +kernel
theorem dX12_finishWith_26 : decode cX12_finishWith 26 = .ok (.iload_n 2, 1) := by decide +kernel
theorem dX12_finishWith_27 : decode cX12_finishWith 27 = .ok (.ireturn, 1) := by decide +kernel
set_option maxRecDepth 20000 in
theorem ggX12_minutesWithCooks_X12_in : GoodIn wsX12_minutesWithCooks wsX12_in := goodIn_r _ [4] rfl (by decide +kernel)
set_option maxRecDepth 20000 in
theorem gX12_minutesWithCooks_X12_in : GoodIn wsX12_minutesWithCooks (va_wsS RX12 87 yX12_in wsX12_in) := goodIn_app (goodIn_of _ (by decide +kernel)) ggX12_minutesWithCooks_X12_in
set_option maxRecDepth 20000 in
theorem ggX12_minutesWithCooks_X12_fails : GoodIn wsX12_minutesWithCooks wsX12_fails := goodIn_r _ [8, 9, 109, 110, 111, 112, 113, 114, 115, 116, 117, 118, 119, 120, 121, 122, 123, 124, 125, 126, 127] rfl (by decide +kernel)
set_option maxRecDepth 20000 in
theorem gX12_minutesWithCooks_X12_fails : GoodIn wsX12_minutesWithCooks (wsV RX12 167 RX12 yX12_fails wsX12_fails) := goodIn_app (goodIn_of _ (by decide +kernel)) ggX12_minutesWithCooks_X12_fails
set_option maxRecDepth 20000 in
theorem ggX12_minutesWithCooks_X12_finishWith : GoodIn wsX12_minutesWithCooks wsX12_finishWith := goodIn_r _ [13, 14, 15, 16, 17, 3, 18, 19, 20, 21, 22, 23, 24, 25, 26, 27, 28, 29, 30, 31, 32, 33, 34, 35, 36, 37, 38, 39, 40, 41, 42, 43, 44, 45, 46, 47, 48, 49, 50, 51, 52, 53, 54, 55, 56, 57, 58, 59, 60, 61, 62, 63, 64, 65, 66, 67, 68, 69, 70, 71, 72, 73, 74, 75, 76, 77, 78, 79, 80, 81, 82, 83, 84, 85, 86, 87, 88, 89, 90, 91, 92, 93, 94, 95, 96, 97, 98, 99, 100, 101, 102, 103, 104, 105, 106, 107, 108, 109, 110, 111, 112, 113, 114, 115, 116, 117, 118, 119, 120, 121, 122, 123, 124, 125, 126, 127] rfl (by decide +kernel)
set_option maxRecDepth 20000 in
theorem gX12_minutesWithCooks_X12_finishWith : GoodIn wsX12_minutesWithCooks (wsV RX12 328 RX12 yX12_finishWith wsX12_finishWith) := goodIn_app (goodIn_of _ (by decide +kernel)) ggX12_minutesWithCooks_X12_finishWith
theorem dX12_minutesWithCooks_0 : decode cX12_minutesWithCooks 0 = .ok (.aload_n 0, 1) := by decide +kernel
theorem dX12_minutesWithCooks_1 : decode cX12_minutesWithCooks 1 = .ok (.iload_n 1, 1) := by decide +kernel
theorem dX12_minutesWithCooks_2 : decode cX12_minutesWithCooks 2 = .ok (.iconst 1, 1) := by decide +kernel
theorem dX12_minutesWithCooks_3 : decode cX12_minutesWithCooks 3 = .ok (.iconst 4, 1) := by decide +kernel
theorem dX12_minutesWithCooks_4 : decode cX12_minutesWithCooks 4 = .ok (.invokestatic 87, 3) := by decide +kernel
theorem dX12_minutesWithCooks_7 : decode cX12_minutesWithCooks 7 = .ok (.ifCond .ne 7, 3) := by decide +kernel
theorem dX12_minutesWithCooks_10 : decode cX12_minutesWithCooks 10 = .ok (.iconst 1, 1) := by decide +kernel
theorem dX12_minutesWithCooks_11 : decode cX12_minutesWithCooks 11 = .ok (.goto 4, 3) := by decide +kernel
theorem dX12_minutesWithCooks_14 : decode cX12_minutesWithCooks 14 = .ok (.iconst 0, 1) := by decide +kernel
theorem dX12_minutesWithCooks_15 : decode cX12_minutesWithCooks 15 = .ok (.iconst 0, 1) := by decide +kernel
theorem dX12_minutesWithCooks_16 : decode cX12_minutesWithCooks 16 = .ok (.iconst 0, 1) := by decide +kernel
theorem dX12_minutesWithCooks_17 : decode cX12_minutesWithCooks 17 = .ok (.invokevirtual 167, 3) := by decide +kernel
theorem dX12_minutesWithCooks_20 : decode cX12_minutesWithCooks 20 = .ok (.ifCond .eq 5, 3) := by decide +kernel
theorem dX12_minutesWithCooks_23 : decode cX12_minutesWithCooks 23 = .ok (.iconst 0, 1) := by decide +kernel
theorem dX12_minutesWithCooks_24 : decode cX12_minutesWithCooks 24 = .ok (.ireturn, 1) := by decide +kernel
theorem dX12_minutesWithCooks_25 : decode cX12_minutesWithCooks 25 = .ok (.aload_n 0, 1) := by decide +kernel
theorem dX12_minutesWithCooks_26 : decode cX12_minutesWithCooks 26 = .ok (.iload_n 1, 1) := by decide +kernel
theorem dX12_minutesWithCooks_27 : decode cX12_minutesWithCooks 27 = .ok (.invokevirtual 328, 3) := by decide +kernel
theorem dX12_minutesWithCooks_30 : decode cX12_minutesWithCooks 30 = .ok (.ireturn, 1) := by decide +kernel
set_option maxRecDepth 20000 in
theorem ggX12_fewestCooks_X12_finishWith : GoodIn wsX12_fewestCooks wsX12_finishWith := goodIn_r _ [6, 7, 8, 9, 10, 5, 11, 12, 13, 14, 15, 16, 17, 18, 19, 20, 21, 22, 23, 24, 25, 26, 27, 28, 29, 30, 31, 32, 33, 34, 35, 36, 37, 38, 39, 40, 41, 42, 43, 44, 45, 46, 47, 48, 49, 50, 51, 52, 53, 54, 55, 56, 57, 58, 59, 60, 61, 62, 63, 64, 65, 66, 67, 68, 69, 70, 71, 72, 73, 74, 75, 76, 77, 78, 79, 80, 81, 82, 83, 84, 85, 86, 87, 88, 89, 90, 91, 92, 93, 94, 95, 96, 97, 98, 99, 100, 101, 102, 103, 104, 105, 106, 107, 108, 109, 110, 111, 112, 113, 114, 115, 116, 117, 118, 119, 120] rfl (by decide +kernel)
set_option maxRecDepth 20000 in
theorem gX12_fewestCooks_X12_finishWith : GoodIn wsX12_fewestCooks (wsV RX12 328 RX12 yX12_finishWith wsX12_finishWith) := goodIn_app (goodIn_of _ (by decide +kernel)) ggX12_fewestCooks_X12_finishWith
theorem dX12_fewestCooks_0 : decode cX12_fewestCooks 0 = .ok (.aload_n 0, 1) := by decide +kernel
theorem dX12_fewestCooks_1 : decode cX12_fewestCooks 1 = .ok (.iconst 0, 1) := by decide +kernel
theorem dX12_fewestCooks_2 : decode cX12_fewestCooks 2 = .ok (.putfield 1, 3) := by decide +kernel
theorem dX12_fewestCooks_5 : decode cX12_fewestCooks 5 = .ok (.aload_n 0, 1) := by decide +kernel
theorem dX12_fewestCooks_6 : decode cX12_fewestCooks 6 = .ok (.iconst 4, 1) := by decide +kernel
theorem dX12_fewestCooks_7 : decode cX12_fewestCooks 7 = .ok (.invokevirtual 328, 3) := by decide +kernel
theorem dX12_fewestCooks_10 : decode cX12_fewestCooks 10 = .ok (.istore_n 1, 1) := by decide +kernel
theorem dX12_fewestCooks_11 : decode cX12_fewestCooks 11 = .ok (.iconst 1, 1) := by decide +kernel
theorem dX12_fewestCooks_12 : decode cX12_fewestCooks 12 = .ok (.istore_n 2, 1) := by decide +kernel
theorem dX12_fewestCooks_13 : decode cX12_fewestCooks 13 = .ok (.aload_n 0, 1) := by decide +kernel
theorem dX12_fewestCooks_14 : decode cX12_fewestCooks 14 = .ok (.iload_n 2, 1) := by decide +kernel
theorem dX12_fewestCooks_15 : decode cX12_fewestCooks 15 = .ok (.invokevirtual 328, 3) := by decide +kernel
theorem dX12_fewestCooks_18 : decode cX12_fewestCooks 18 = .ok (.iload_n 1, 1) := by decide +kernel
theorem dX12_fewestCooks_19 : decode cX12_fewestCooks 19 = .ok (.if_icmp .eq 9, 3) := by decide +kernel
theorem dX12_fewestCooks_22 : decode cX12_fewestCooks 22 = .ok (.iinc 2 1, 3) := by decide +kernel
theorem dX12_fewestCooks_25 : decode cX12_fewestCooks 25 = .ok (.goto (-12), 3) := by decide +kernel
theorem dX12_fewestCooks_28 : decode cX12_fewestCooks 28 = .ok (.iload_n 2, 1) := by decide +kernel
theorem dX12_fewestCooks_29 : decode cX12_fewestCooks 29 = .ok (.ireturn, 1) := by decide +kernel
set_option maxRecDepth 20000 in
theorem ggX12_bottleneck_X12_isFinished : GoodIn wsX12_bottleneck wsX12_isFinished := goodIn_r _ [6, 1, 7, 8, 9, 5, 10, 11, 12, 13, 14, 102, 103, 104, 105, 106, 107, 108, 109, 110, 111, 112, 113, 114, 115, 116, 117, 118, 119, 120] rfl (by decide +kernel)
set_option maxRecDepth 20000 in
theorem gX12_bottleneck_X12_isFinished : GoodIn wsX12_bottleneck (wsV RX12 161 RX12 yX12_isFinished wsX12_isFinished) := goodIn_app (goodIn_of _ (by decide +kernel)) ggX12_bottleneck_X12_isFinished
set_option maxRecDepth 20000 in
theorem ggX12_bottleneck_X12_fails : GoodIn wsX12_bottleneck wsX12_fails := goodIn_r _ [18, 19, 102, 103, 104, 105, 106, 107, 108, 109, 110, 111, 112, 113, 114, 115, 116, 117, 118, 119, 120] rfl (by decide +kernel)
set_option maxRecDepth 20000 in
theorem gX12_bottleneck_X12_fails : GoodIn wsX12_bottleneck (wsV RX12 167 RX12 yX12_fails wsX12_fails) := goodIn_app (goodIn_of _ (by decide +kernel)) ggX12_bottleneck_X12_fails
set_option maxRecDepth 20000 in
theorem ggX12_bottleneck_X12_copyBlock : GoodIn wsX12_bottleneck wsX12_copyBlock := goodIn_r _ [23, 1, 102, 103, 104, 105, 106, 107, 108, 109, 110, 111, 112, 113, 114, 115, 116, 117, 118, 119, 120] rfl (by decide +kernel)
set_option maxRecDepth 20000 in
theorem gX12_bottleneck_X12_copyBlock : GoodIn wsX12_bottleneck (wsV RX12 91 RX12 yX12_copyBlock wsX12_copyBlock) := goodIn_app (goodIn_of _ (by decide +kernel)) ggX12_bottleneck_X12_copyBlock
set_option maxRecDepth 20000 in
theorem ggX12_bottleneck_X12_of : GoodIn wsX12_bottleneck wsX12_of := goodIn_r _ [14, 1, 102, 103, 104, 105, 106, 107, 108, 109, 110, 111, 112, 113, 114, 115, 116, 117, 118, 119, 120] rfl (by decide +kernel)
set_option maxRecDepth 20000 in
theorem gX12_bottleneck_X12_of : GoodIn wsX12_bottleneck (wsV RX12 95 RX12 yX12_of wsX12_of) := goodIn_app (goodIn_of _ (by decide +kernel)) ggX12_bottleneck_X12_of
set_option maxRecDepth 20000 in
theorem ggX12_bottleneck_X12_set : GoodIn wsX12_bottleneck wsX12_set := goodIn_r _ [27, 1, 102, 103, 104, 105, 106, 107, 108, 109, 110, 111, 112, 113, 114, 115, 116, 117, 118, 119, 120] rfl (by decide +kernel)
set_option maxRecDepth 20000 in
theorem gX12_bottleneck_X12_set : GoodIn wsX12_bottleneck (wsV RX12 126 RX12 yX12_set wsX12_set) := goodIn_app (goodIn_of _ (by decide +kernel)) ggX12_bottleneck_X12_set
set_option maxRecDepth 20000 in
theorem ggX12_bottleneck_X12_simulate : GoodIn wsX12_bottleneck wsX12_simulate := goodIn_r _ [31, 2, 3, 4, 5, 6, 1, 7, 8, 9, 10, 11, 12, 13, 14, 32, 33, 34, 35, 36, 37, 38, 39, 40, 24, 25, 26, 27, 41, 42, 43, 44, 45, 46, 47, 48, 49, 50, 51, 52, 53, 54, 55, 56, 57, 58, 59, 60, 61, 62, 63, 64, 65, 66, 67, 68, 69, 70, 71, 72, 73, 74, 75, 76, 77, 78, 79, 80, 81, 82, 83, 84, 85, 86, 87, 88, 89, 90, 91, 92, 93, 94, 95, 96, 97, 98, 99, 100, 101, 102, 103, 104, 105, 106, 107, 108, 109, 110, 111, 112, 113, 114, 115, 116, 117, 118, 119, 120] rfl (by decide +kernel)
set_option maxRecDepth 20000 in
theorem gX12_bottleneck_X12_simulate : GoodIn wsX12_bottleneck (wsV RX12 325 RX12 yX12_simulate wsX12_simulate) := goodIn_app (goodIn_of _ (by decide +kernel)) ggX12_bottleneck_X12_simulate
theorem dX12_bottleneck_0 : decode cX12_bottleneck 0 = .ok (.aload_n 0, 1) := by decide +kernel
theorem dX12_bottleneck_1 : decode cX12_bottleneck 1 = .ok (.aload_n 0, 1) := by decide +kernel
theorem dX12_bottleneck_2 : decode cX12_bottleneck 2 = .ok (.invokevirtual 161, 3) := by decide +kernel
theorem dX12_bottleneck_5 : decode cX12_bottleneck 5 = .ok (.iconst 0, 1) := by decide +kernel
theorem dX12_bottleneck_6 : decode cX12_bottleneck 6 = .ok (.iconst 0, 1) := by decide +kernel
theorem dX12_bottleneck_7 : decode cX12_bottleneck 7 = .ok (.invokevirtual 167, 3) := by decide +kernel
theorem dX12_bottleneck_10 : decode cX12_bottleneck 10 = .ok (.ifCond .eq 5, 3) := by decide +kernel
theorem dX12_bottleneck_13 : decode cX12_bottleneck 13 = .ok (.iconst 0, 1) := by decide +kernel
theorem dX12_bottleneck_14 : decode cX12_bottleneck 14 = .ok (.ireturn, 1) := by decide +kernel
theorem dX12_bottleneck_15 : decode cX12_bottleneck 15 = .ok (.aload_n 0, 1) := by decide +kernel
theorem dX12_bottleneck_16 : decode cX12_bottleneck 16 = .ok (.iconst 0, 1) := by decide +kernel
theorem dX12_bottleneck_17 : decode cX12_bottleneck 17 = .ok (.bipush 10, 2) := by decide +kernel
theorem dX12_bottleneck_19 : decode cX12_bottleneck 19 = .ok (.invokevirtual 91, 3) := by decide +kernel
theorem dX12_bottleneck_22 : decode cX12_bottleneck 22 = .ok (.iconst (-1), 1) := by decide +kernel
theorem dX12_bottleneck_23 : decode cX12_bottleneck 23 = .ok (.istore_n 1, 1) := by decide +kernel
theorem dX12_bottleneck_24 : decode cX12_bottleneck 24 = .ok (.iconst 0, 1) := by decide +kernel
theorem dX12_bottleneck_25 : decode cX12_bottleneck 25 = .ok (.istore_n 2, 1) := by decide +kernel
theorem dX12_bottleneck_26 : decode cX12_bottleneck 26 = .ok (.iconst 0, 1) := by decide +kernel
theorem dX12_bottleneck_27 : decode cX12_bottleneck 27 = .ok (.istore_n 3, 1) := by decide +kernel
theorem dX12_bottleneck_28 : decode cX12_bottleneck 28 = .ok (.iload_n 3, 1) := by decide +kernel
theorem dX12_bottleneck_29 : decode cX12_bottleneck 29 = .ok (.aload_n 0, 1) := by decide +kernel
theorem dX12_bottleneck_30 : decode cX12_bottleneck 30 = .ok (.getfield 13, 3) := by decide +kernel
theorem dX12_bottleneck_33 : decode cX12_bottleneck 33 = .ok (.bipush 13, 2) := by decide +kernel
theorem dX12_bottleneck_35 : decode cX12_bottleneck 35 = .ok (.iaload, 1) := by decide +kernel
theorem dX12_bottleneck_36 : decode cX12_bottleneck 36 = .ok (.if_icmp .ge 98, 3) := by decide +kernel
theorem dX12_bottleneck_39 : decode cX12_bottleneck 39 = .ok (.aload_n 0, 1) := by decide +kernel
theorem dX12_bottleneck_40 : decode cX12_bottleneck 40 = .ok (.iload_n 3, 1) := by decide +kernel
theorem dX12_bottleneck_41 : decode cX12_bottleneck 41 = .ok (.bipush 17, 2) := by decide +kernel
theorem dX12_bottleneck_43 : decode cX12_bottleneck 43 = .ok (.invokevirtual 95, 3) := by decide +kernel
theorem dX12_bottleneck_46 : decode cX12_bottleneck 46 = .ok (.iconst 2, 1) := by decide +kernel
theorem dX12_bottleneck_47 : decode cX12_bottleneck 47 = .ok (.if_icmp .ne 6, 3) := by decide +kernel
theorem dX12_bottleneck_50 : decode cX12_bottleneck 50 = .ok (.goto 78, 3) := by decide +kernel
theorem dX12_bottleneck_53 : decode cX12_bottleneck 53 = .ok (.aload_n 0, 1) := by decide +kernel
theorem dX12_bottleneck_54 : decode cX12_bottleneck 54 = .ok (.iload_n 3, 1) := by decide +kernel
theorem dX12_bottleneck_55 : decode cX12_bottleneck 55 = .ok (.bipush 7, 2) := by decide +kernel
theorem dX12_bottleneck_57 : decode cX12_bottleneck 57 = .ok (.invokevirtual 95, 3) := by decide +kernel
theorem dX12_bottleneck_60 : decode cX12_bottleneck 60 = .ok (.iconst 1, 1) := by decide +kernel
theorem dX12_bottleneck_61 : decode cX12_bottleneck 61 = .ok (.if_icmp .le 19, 3) := by decide +kernel
theorem dX12_bottleneck_64 : decode cX12_bottleneck 64 = .ok (.aload_n 0, 1) := by decide +kernel
theorem dX12_bottleneck_65 : decode cX12_bottleneck 65 = .ok (.iload_n 3, 1) := by decide +kernel
theorem dX12_bottleneck_66 : decode cX12_bottleneck 66 = .ok (.bipush 7, 2) := by decide +kernel
theorem dX12_bottleneck_68 : decode cX12_bottleneck 68 = .ok (.aload_n 0, 1) := by decide +kernel
theorem dX12_bottleneck_69 : decode cX12_bottleneck 69 = .ok (.iload_n 3, 1) := by decide +kernel
theorem dX12_bottleneck_70 : decode cX12_bottleneck 70 = .ok (.bipush 7, 2) := by decide +kernel
theorem dX12_bottleneck_72 : decode cX12_bottleneck 72 = .ok (.invokevirtual 95, 3) := by decide +kernel
theorem dX12_bottleneck_75 : decode cX12_bottleneck 75 = .ok (.iconst 1, 1) := by decide +kernel
theorem dX12_bottleneck_76 : decode cX12_bottleneck 76 = .ok (.isub, 1) := by decide +kernel
theorem dX12_bottleneck_77 : decode cX12_bottleneck 77 = .ok (.invokevirtual 126, 3) := by decide +kernel
theorem dX12_bottleneck_80 : decode cX12_bottleneck 80 = .ok (.aload_n 0, 1) := by decide +kernel
theorem dX12_bottleneck_81 : decode cX12_bottleneck 81 = .ok (.invokevirtual 325, 3) := by decide +kernel
theorem dX12_bottleneck_84 : decode cX12_bottleneck 84 = .ok (.istore 4, 2) := by decide +kernel
theorem dX12_bottleneck_86 : decode cX12_bottleneck 86 = .ok (.aload_n 0, 1) := by decide +kernel
theorem dX12_bottleneck_87 : decode cX12_bottleneck 87 = .ok (.bipush 10, 2) := by decide +kernel
theorem dX12_bottleneck_89 : decode cX12_bottleneck 89 = .ok (.iconst 0, 1) := by decide +kernel
theorem dX12_bottleneck_90 : decode cX12_bottleneck 90 = .ok (.invokevirtual 91, 3) := by decide +kernel
theorem dX12_bottleneck_93 : decode cX12_bottleneck 93 = .ok (.iload 4, 2) := by decide +kernel
theorem dX12_bottleneck_95 : decode cX12_bottleneck 95 = .ok (.iconst (-1), 1) := by decide +kernel
theorem dX12_bottleneck_96 : decode cX12_bottleneck 96 = .ok (.if_icmp .ne 9, 3) := by decide +kernel
theorem dX12_bottleneck_99 : decode cX12_bottleneck 99 = .ok (.sipush 501, 3) := by decide +kernel
theorem dX12_bottleneck_102 : decode cX12_bottleneck 102 = .ok (.goto 5, 3) := by decide +kernel
theorem dX12_bottleneck_105 : decode cX12_bottleneck 105 = .ok (.iload 4, 2) := by decide +kernel
theorem dX12_bottleneck_107 : decode cX12_bottleneck 107 = .ok (.istore 4, 2) := by decide +kernel
theorem dX12_bottleneck_109 : decode cX12_bottleneck 109 = .ok (.iload_n 1, 1) := by decide +kernel
theorem dX12_bottleneck_110 : decode cX12_bottleneck 110 = .ok (.iconst (-1), 1) := by decide +kernel
theorem dX12_bottleneck_111 : decode cX12_bottleneck 111 = .ok (.if_icmp .eq 12, 3) := by decide +kernel
theorem dX12_bottleneck_114 : decode cX12_bottleneck 114 = .ok (.iload 4, 2) := by decide +kernel
theorem dX12_bottleneck_116 : decode cX12_bottleneck 116 = .ok (.iload_n 2, 1) := by decide +kernel
theorem dX12_bottleneck_117 : decode cX12_bottleneck 117 = .ok (.if_icmp .lt 6, 3) := by decide +kernel
theorem dX12_bottleneck_120 : decode cX12_bottleneck 120 = .ok (.goto 8, 3) := by decide +kernel
theorem dX12_bottleneck_123 : decode cX12_bottleneck 123 = .ok (.iload_n 3, 1) := by decide +kernel
theorem dX12_bottleneck_124 : decode cX12_bottleneck 124 = .ok (.istore_n 1, 1) := by decide +kernel
theorem dX12_bottleneck_125 : decode cX12_bottleneck 125 = .ok (.iload 4, 2) := by decide +kernel
theorem dX12_bottleneck_127 : decode cX12_bottleneck 127 = .ok (.istore_n 2, 1) := by decide +kernel
theorem dX12_bottleneck_128 : decode cX12_bottleneck 128 = .ok (.iinc 3 1, 3) := by decide +kernel
theorem dX12_bottleneck_131 : decode cX12_bottleneck 131 = .ok (.goto (-103), 3) := by decide +kernel
theorem dX12_bottleneck_134 : decode cX12_bottleneck 134 = .ok (.iload_n 1, 1) := by decide +kernel
theorem dX12_bottleneck_135 : decode cX12_bottleneck 135 = .ok (.ireturn, 1) := by decide +kernel
set_option maxRecDepth 20000 in
theorem ggX12_saltNeeded_X12_of : GoodIn wsX12_saltNeeded wsX12_of := goodIn_r _ [7, 2, 8, 9, 10, 11, 12, 13, 14, 15, 16, 17, 18, 19, 20, 21, 22, 23, 24, 25, 26] rfl (by decide +kernel)
set_option maxRecDepth 20000 in
theorem gX12_saltNeeded_X12_of : GoodIn wsX12_saltNeeded (wsV RX12 95 RX12 yX12_of wsX12_of) := goodIn_app (goodIn_of _ (by decide +kernel)) ggX12_saltNeeded_X12_of
theorem dX12_saltNeeded_0 : decode cX12_saltNeeded 0 = .ok (.aload_n 0, 1) := by decide +kernel
theorem dX12_saltNeeded_1 : decode cX12_saltNeeded 1 = .ok (.iconst 0, 1) := by decide +kernel
theorem dX12_saltNeeded_2 : decode cX12_saltNeeded 2 = .ok (.putfield 1, 3) := by decide +kernel
theorem dX12_saltNeeded_5 : decode cX12_saltNeeded 5 = .ok (.aload_n 0, 1) := by decide +kernel
theorem dX12_saltNeeded_6 : decode cX12_saltNeeded 6 = .ok (.getfield 13, 3) := by decide +kernel
theorem dX12_saltNeeded_9 : decode cX12_saltNeeded 9 = .ok (.iconst 5, 1) := by decide +kernel
theorem dX12_saltNeeded_10 : decode cX12_saltNeeded 10 = .ok (.iaload, 1) := by decide +kernel
theorem dX12_saltNeeded_11 : decode cX12_saltNeeded 11 = .ok (.istore_n 1, 1) := by decide +kernel
theorem dX12_saltNeeded_12 : decode cX12_saltNeeded 12 = .ok (.iconst 0, 1) := by decide +kernel
theorem dX12_saltNeeded_13 : decode cX12_saltNeeded 13 = .ok (.istore_n 2, 1) := by decide +kernel
theorem dX12_saltNeeded_14 : decode cX12_saltNeeded 14 = .ok (.iload_n 2, 1) := by decide +kernel
theorem dX12_saltNeeded_15 : decode cX12_saltNeeded 15 = .ok (.aload_n 0, 1) := by decide +kernel
theorem dX12_saltNeeded_16 : decode cX12_saltNeeded 16 = .ok (.getfield 13, 3) := by decide +kernel
theorem dX12_saltNeeded_19 : decode cX12_saltNeeded 19 = .ok (.bipush 13, 2) := by decide +kernel
theorem dX12_saltNeeded_21 : decode cX12_saltNeeded 21 = .ok (.iaload, 1) := by decide +kernel
theorem dX12_saltNeeded_22 : decode cX12_saltNeeded 22 = .ok (.if_icmp .ge 19, 3) := by decide +kernel
theorem dX12_saltNeeded_25 : decode cX12_saltNeeded 25 = .ok (.iload_n 1, 1) := by decide +kernel
theorem dX12_saltNeeded_26 : decode cX12_saltNeeded 26 = .ok (.aload_n 0, 1) := by decide +kernel
theorem dX12_saltNeeded_27 : decode cX12_saltNeeded 27 = .ok (.iload_n 2, 1) := by decide +kernel
theorem dX12_saltNeeded_28 : decode cX12_saltNeeded 28 = .ok (.bipush 8, 2) := by decide +kernel
theorem dX12_saltNeeded_30 : decode cX12_saltNeeded 30 = .ok (.invokevirtual 95, 3) := by decide +kernel
theorem dX12_saltNeeded_33 : decode cX12_saltNeeded 33 = .ok (.iadd, 1) := by decide +kernel
theorem dX12_saltNeeded_34 : decode cX12_saltNeeded 34 = .ok (.istore_n 1, 1) := by decide +kernel
theorem dX12_saltNeeded_35 : decode cX12_saltNeeded 35 = .ok (.iinc 2 1, 3) := by decide +kernel
theorem dX12_saltNeeded_38 : decode cX12_saltNeeded 38 = .ok (.goto (-24), 3) := by decide +kernel
theorem dX12_saltNeeded_41 : decode cX12_saltNeeded 41 = .ok (.iload_n 1, 1) := by decide +kernel
theorem dX12_saltNeeded_42 : decode cX12_saltNeeded 42 = .ok (.aload_n 0, 1) := by decide +kernel
theorem dX12_saltNeeded_43 : decode cX12_saltNeeded 43 = .ok (.getfield 13, 3) := by decide +kernel
theorem dX12_saltNeeded_46 : decode cX12_saltNeeded 46 = .ok (.iconst 2, 1) := by decide +kernel
theorem dX12_saltNeeded_47 : decode cX12_saltNeeded 47 = .ok (.iaload, 1) := by decide +kernel
theorem dX12_saltNeeded_48 : decode cX12_saltNeeded 48 = .ok (.if_icmp .ge 12, 3) := by decide +kernel
theorem dX12_saltNeeded_51 : decode cX12_saltNeeded 51 = .ok (.aload_n 0, 1) := by decide +kernel
theorem dX12_saltNeeded_52 : decode cX12_saltNeeded 52 = .ok (.getfield 13, 3) := by decide +kernel
theorem dX12_saltNeeded_55 : decode cX12_saltNeeded 55 = .ok (.iconst 2, 1) := by decide +kernel
theorem dX12_saltNeeded_56 : decode cX12_saltNeeded 56 = .ok (.iaload, 1) := by decide +kernel
theorem dX12_saltNeeded_57 : decode cX12_saltNeeded 57 = .ok (.iload_n 1, 1) := by decide +kernel
theorem dX12_saltNeeded_58 : decode cX12_saltNeeded 58 = .ok (.isub, 1) := by decide +kernel
theorem dX12_saltNeeded_59 : decode cX12_saltNeeded 59 = .ok (.ireturn, 1) := by decide +kernel
theorem dX12_saltNeeded_60 : decode cX12_saltNeeded 60 = .ok (.iload_n 1, 1) := by decide +kernel
theorem dX12_saltNeeded_61 : decode cX12_saltNeeded 61 = .ok (.aload_n 0, 1) := by decide +kernel
theorem dX12_saltNeeded_62 : decode cX12_saltNeeded 62 = .ok (.getfield 13, 3) := by decide +kernel
theorem dX12_saltNeeded_65 : decode cX12_saltNeeded 65 = .ok (.iconst 3, 1) := by decide +kernel
theorem dX12_saltNeeded_66 : decode cX12_saltNeeded 66 = .ok (.iaload, 1) := by decide +kernel
theorem dX12_saltNeeded_67 : decode cX12_saltNeeded 67 = .ok (.if_icmp .le 14, 3) := by decide +kernel
theorem dX12_saltNeeded_70 : decode cX12_saltNeeded 70 = .ok (.aload_n 0, 1) := by decide +kernel
theorem dX12_saltNeeded_71 : decode cX12_saltNeeded 71 = .ok (.getfield 13, 3) := by decide +kernel
theorem dX12_saltNeeded_74 : decode cX12_saltNeeded 74 = .ok (.iconst 3, 1) := by decide +kernel
theorem dX12_saltNeeded_75 : decode cX12_saltNeeded 75 = .ok (.iaload, 1) := by decide +kernel
theorem dX12_saltNeeded_76 : decode cX12_saltNeeded 76 = .ok (.iload_n 1, 1) := by decide +kernel
theorem dX12_saltNeeded_77 : decode cX12_saltNeeded 77 = .ok (.isub, 1) := by decide +kernel
theorem dX12_saltNeeded_78 : decode cX12_saltNeeded 78 = .ok (.goto 4, 3) := by decide +kernel
theorem dX12_saltNeeded_81 : decode cX12_saltNeeded 81 = .ok (.iconst 0, 1) := by decide +kernel
theorem dX12_saltNeeded_82 : decode cX12_saltNeeded 82 = .ok (.ireturn, 1) := by decide +kernel
set_option maxRecDepth 20000 in
theorem ggX12_doneShare_X12_withStatus : GoodIn wsX12_doneShare wsX12_withStatus := goodIn_r _ [7, 2, 8, 9, 10, 6, 11, 12, 13, 14, 15, 16, 17, 18, 19, 20, 21, 22, 23, 24, 25, 26, 27, 28, 29, 30] rfl (by decide +kernel)
set_option maxRecDepth 20000 in
theorem gX12_doneShare_X12_withStatus : GoodIn wsX12_doneShare (wsV RX12 123 RX12 yX12_withStatus wsX12_withStatus) := goodIn_app (goodIn_of _ (by decide +kernel)) ggX12_doneShare_X12_withStatus
theorem dX12_doneShare_0 : decode cX12_doneShare 0 = .ok (.aload_n 0, 1) := by decide +kernel
theorem dX12_doneShare_1 : decode cX12_doneShare 1 = .ok (.iconst 0, 1) := by decide +kernel
theorem dX12_doneShare_2 : decode cX12_doneShare 2 = .ok (.putfield 1, 3) := by decide +kernel
theorem dX12_doneShare_5 : decode cX12_doneShare 5 = .ok (.aload_n 0, 1) := by decide +kernel
theorem dX12_doneShare_6 : decode cX12_doneShare 6 = .ok (.iconst 2, 1) := by decide +kernel
theorem dX12_doneShare_7 : decode cX12_doneShare 7 = .ok (.invokevirtual 123, 3) := by decide +kernel
theorem dX12_doneShare_10 : decode cX12_doneShare 10 = .ok (.i2f, 1) := by decide +kernel
theorem dX12_doneShare_11 : decode cX12_doneShare 11 = .ok (.aload_n 0, 1) := by decide +kernel
theorem dX12_doneShare_12 : decode cX12_doneShare 12 = .ok (.getfield 13, 3) := by decide +kernel
theorem dX12_doneShare_15 : decode cX12_doneShare 15 = .ok (.bipush 13, 2) := by decide +kernel
theorem dX12_doneShare_17 : decode cX12_doneShare 17 = .ok (.iaload, 1) := by decide +kernel
theorem dX12_doneShare_18 : decode cX12_doneShare 18 = .ok (.i2f, 1) := by decide +kernel
theorem dX12_doneShare_19 : decode cX12_doneShare 19 = .ok (.fdiv, 1) := by decide +kernel
theorem dX12_doneShare_20 : decode cX12_doneShare 20 = .ok (.freturn, 1) := by decide +kernel
set_option maxRecDepth 20000 in
theorem ggX12_meanDuration_X12_of : GoodIn wsX12_meanDuration wsX12_of := goodIn_r _ [7, 2, 8, 9, 10, 11, 12, 13, 14, 15, 16, 17, 18, 19, 20, 21, 22, 23, 24, 25, 26] rfl (by decide +kernel)
set_option maxRecDepth 20000 in
theorem gX12_meanDuration_X12_of : GoodIn wsX12_meanDuration (wsV RX12 95 RX12 yX12_of wsX12_of) := goodIn_app (goodIn_of _ (by decide +kernel)) ggX12_meanDuration_X12_of
theorem dX12_meanDuration_0 : decode cX12_meanDuration 0 = .ok (.aload_n 0, 1) := by decide +kernel
theorem dX12_meanDuration_1 : decode cX12_meanDuration 1 = .ok (.iconst 0, 1) := by decide +kernel
theorem dX12_meanDuration_2 : decode cX12_meanDuration 2 = .ok (.putfield 1, 3) := by decide +kernel
theorem dX12_meanDuration_5 : decode cX12_meanDuration 5 = .ok (.iconst 0, 1) := by decide +kernel
theorem dX12_meanDuration_6 : decode cX12_meanDuration 6 = .ok (.istore_n 1, 1) := by decide +kernel
theorem dX12_meanDuration_7 : decode cX12_meanDuration 7 = .ok (.iconst 0, 1) := by decide +kernel
theorem dX12_meanDuration_8 : decode cX12_meanDuration 8 = .ok (.istore_n 2, 1) := by decide +kernel
theorem dX12_meanDuration_9 : decode cX12_meanDuration 9 = .ok (.iload_n 2, 1) := by decide +kernel
theorem dX12_meanDuration_10 : decode cX12_meanDuration 10 = .ok (.aload_n 0, 1) := by decide +kernel
theorem dX12_meanDuration_11 : decode cX12_meanDuration 11 = .ok (.getfield 13, 3) := by decide +kernel
theorem dX12_meanDuration_14 : decode cX12_meanDuration 14 = .ok (.bipush 13, 2) := by decide +kernel
theorem dX12_meanDuration_16 : decode cX12_meanDuration 16 = .ok (.iaload, 1) := by decide +kernel
theorem dX12_meanDuration_17 : decode cX12_meanDuration 17 = .ok (.if_icmp .ge 19, 3) := by decide +kernel
theorem dX12_meanDuration_20 : decode cX12_meanDuration 20 = .ok (.iload_n 1, 1) := by decide +kernel
theorem dX12_meanDuration_21 : decode cX12_meanDuration 21 = .ok (.aload_n 0, 1) := by decide +kernel
theorem dX12_meanDuration_22 : decode cX12_meanDuration 22 = .ok (.iload_n 2, 1) := by decide +kernel
theorem dX12_meanDuration_23 : decode cX12_meanDuration 23 = .ok (.bipush 7, 2) := by decide +kernel
theorem dX12_meanDuration_25 : decode cX12_meanDuration 25 = .ok (.invokevirtual 95, 3) := by decide +kernel
theorem dX12_meanDuration_28 : decode cX12_meanDuration 28 = .ok (.iadd, 1) := by decide +kernel
theorem dX12_meanDuration_29 : decode cX12_meanDuration 29 = .ok (.istore_n 1, 1) := by decide +kernel
theorem dX12_meanDuration_30 : decode cX12_meanDuration 30 = .ok (.iinc 2 1, 3) := by decide +kernel
theorem dX12_meanDuration_33 : decode cX12_meanDuration 33 = .ok (.goto (-24), 3) := by decide +kernel
theorem dX12_meanDuration_36 : decode cX12_meanDuration 36 = .ok (.iload_n 1, 1) := by decide +kernel
theorem dX12_meanDuration_37 : decode cX12_meanDuration 37 = .ok (.i2d, 1) := by decide +kernel
theorem dX12_meanDuration_38 : decode cX12_meanDuration 38 = .ok (.aload_n 0, 1) := by decide +kernel
theorem dX12_meanDuration_39 : decode cX12_meanDuration 39 = .ok (.getfield 13, 3) := by decide +kernel
theorem dX12_meanDuration_42 : decode cX12_meanDuration 42 = .ok (.bipush 13, 2) := by decide +kernel
theorem dX12_meanDuration_44 : decode cX12_meanDuration 44 = .ok (.iaload, 1) := by decide +kernel
theorem dX12_meanDuration_45 : decode cX12_meanDuration 45 = .ok (.i2d, 1) := by decide +kernel
theorem dX12_meanDuration_46 : decode cX12_meanDuration 46 = .ok (.ddiv, 1) := by decide +kernel
theorem dX12_meanDuration_47 : decode cX12_meanDuration 47 = .ok (.dreturn, 1) := by decide +kernel
set_option maxRecDepth 20000 in
theorem ggX12_inconsistencies_X12_withStatus : GoodIn wsX12_inconsistencies wsX12_withStatus := goodIn_r _ [7, 2, 8, 9, 10, 6, 11, 12, 13, 14, 15, 16, 17, 18, 19, 20, 21, 22, 23, 24, 25, 26, 27, 28, 29, 30] rfl (by decide +kernel)
set_option maxRecDepth 20000 in
theorem gX12_inconsistencies_X12_withStatus : GoodIn wsX12_inconsistencies (wsV RX12 123 RX12 yX12_withStatus wsX12_withStatus) := goodIn_app (goodIn_of _ (by decide +kernel)) ggX12_inconsistencies_X12_withStatus
set_option maxRecDepth 20000 in
theorem ggX12_inconsistencies_X12_of : GoodIn wsX12_inconsistencies wsX12_of := goodIn_r _ [11, 2, 12, 13, 14, 15, 16, 17, 18, 19, 20, 21, 22, 23, 24, 25, 26, 27, 28, 29, 30] rfl (by decide +kernel)
set_option maxRecDepth 20000 in
theorem gX12_inconsistencies_X12_of : GoodIn wsX12_inconsistencies (wsV RX12 95 RX12 yX12_of wsX12_of) := goodIn_app (goodIn_of _ (by decide +kernel)) ggX12_inconsistencies_X12_of
theorem dX12_inconsistencies_0 : decode cX12_inconsistencies 0 = .ok (.aload_n 0, 1) := by decide +kernel
theorem dX12_inconsistencies_1 : decode cX12_inconsistencies 1 = .ok (.iconst 0, 1) := by decide +kernel
theorem dX12_inconsistencies_2 : decode cX12_inconsistencies 2 = .ok (.putfield 1, 3) := by decide +kernel
theorem dX12_inconsistencies_5 : decode cX12_inconsistencies 5 = .ok (.aload_n 0, 1) := by decide +kernel
theorem dX12_inconsistencies_6 : decode cX12_inconsistencies 6 = .ok (.getfield 13, 3) := by decide +kernel
theorem dX12_inconsistencies_9 : decode cX12_inconsistencies 9 = .ok (.bipush 7, 2) := by decide +kernel
theorem dX12_inconsistencies_11 : decode cX12_inconsistencies 11 = .ok (.iaload, 1) := by decide +kernel
theorem dX12_inconsistencies_12 : decode cX12_inconsistencies 12 = .ok (.aload_n 0, 1) := by decide +kernel
theorem dX12_inconsistencies_13 : decode cX12_inconsistencies 13 = .ok (.getfield 13, 3) := by decide +kernel
theorem dX12_inconsistencies_16 : decode cX12_inconsistencies 16 = .ok (.bipush 8, 2) := by decide +kernel
theorem dX12_inconsistencies_18 : decode cX12_inconsistencies 18 = .ok (.iaload, 1) := by decide +kernel
theorem dX12_inconsistencies_19 : decode cX12_inconsistencies 19 = .ok (.isub, 1) := by decide +kernel
theorem dX12_inconsistencies_20 : decode cX12_inconsistencies 20 = .ok (.aload_n 0, 1) := by decide +kernel
theorem dX12_inconsistencies_21 : decode cX12_inconsistencies 21 = .ok (.iconst 1, 1) := by decide +kernel
theorem dX12_inconsistencies_22 : decode cX12_inconsistencies 22 = .ok (.invokevirtual 123, 3) := by decide +kernel
theorem dX12_inconsistencies_25 : decode cX12_inconsistencies 25 = .ok (.isub, 1) := by decide +kernel
theorem dX12_inconsistencies_26 : decode cX12_inconsistencies 26 = .ok (.aload_n 0, 1) := by decide +kernel
theorem dX12_inconsistencies_27 : decode cX12_inconsistencies 27 = .ok (.getfield 13, 3) := by decide +kernel
theorem dX12_inconsistencies_30 : decode cX12_inconsistencies 30 = .ok (.bipush 11, 2) := by decide +kernel
theorem dX12_inconsistencies_32 : decode cX12_inconsistencies 32 = .ok (.iaload, 1) := by decide +kernel
theorem dX12_inconsistencies_33 : decode cX12_inconsistencies 33 = .ok (.isub, 1) := by decide +kernel
theorem dX12_inconsistencies_34 : decode cX12_inconsistencies 34 = .ok (.istore_n 1, 1) := by decide +kernel
theorem dX12_inconsistencies_35 : decode cX12_inconsistencies 35 = .ok (.iconst 0, 1) := by decide +kernel
theorem dX12_inconsistencies_36 : decode cX12_inconsistencies 36 = .ok (.istore_n 2, 1) := by decide +kernel
theorem dX12_inconsistencies_37 : decode cX12_inconsistencies 37 = .ok (.iload_n 2, 1) := by decide +kernel
theorem dX12_inconsistencies_38 : decode cX12_inconsistencies 38 = .ok (.aload_n 0, 1) := by decide +kernel
theorem dX12_inconsistencies_39 : decode cX12_inconsistencies 39 = .ok (.getfield 13, 3) := by decide +kernel
theorem dX12_inconsistencies_42 : decode cX12_inconsistencies 42 = .ok (.bipush 13, 2) := by decide +kernel
theorem dX12_inconsistencies_44 : decode cX12_inconsistencies 44 = .ok (.iaload, 1) := by decide +kernel
theorem dX12_inconsistencies_45 : decode cX12_inconsistencies 45 = .ok (.if_icmp .ge 84, 3) := by decide +kernel
theorem dX12_inconsistencies_48 : decode cX12_inconsistencies 48 = .ok (.iconst 0, 1) := by decide +kernel
theorem dX12_inconsistencies_49 : decode cX12_inconsistencies 49 = .ok (.istore_n 3, 1) := by decide +kernel
theorem dX12_inconsistencies_50 : decode cX12_inconsistencies 50 = .ok (.iconst 0, 1) := by decide +kernel
theorem dX12_inconsistencies_51 : decode cX12_inconsistencies 51 = .ok (.istore 4, 2) := by decide +kernel
theorem dX12_inconsistencies_53 : decode cX12_inconsistencies 53 = .ok (.iload 4, 2) := by decide +kernel
theorem dX12_inconsistencies_55 : decode cX12_inconsistencies 55 = .ok (.aload_n 0, 1) := by decide +kernel
theorem dX12_inconsistencies_56 : decode cX12_inconsistencies 56 = .ok (.iload_n 2, 1) := by decide +kernel
theorem dX12_inconsistencies_57 : decode cX12_inconsistencies 57 = .ok (.bipush 12, 2) := by decide +kernel
theorem dX12_inconsistencies_59 : decode cX12_inconsistencies 59 = .ok (.invokevirtual 95, 3) := by decide +kernel
theorem dX12_inconsistencies_62 : decode cX12_inconsistencies 62 = .ok (.if_icmp .ge 38, 3) := by decide +kernel
theorem dX12_inconsistencies_65 : decode cX12_inconsistencies 65 = .ok (.iload_n 3, 1) := by decide +kernel
theorem dX12_inconsistencies_66 : decode cX12_inconsistencies 66 = .ok (.ifCond .ne 22, 3) := by decide +kernel
theorem dX12_inconsistencies_69 : decode cX12_inconsistencies 69 = .ok (.aload_n 0, 1) := by decide +kernel
theorem dX12_inconsistencies_70 : decode cX12_inconsistencies 70 = .ok (.aload_n 0, 1) := by decide +kernel
theorem dX12_inconsistencies_71 : decode cX12_inconsistencies 71 = .ok (.iload_n 2, 1) := by decide +kernel
theorem dX12_inconsistencies_72 : decode cX12_inconsistencies 72 = .ok (.bipush 13, 2) := by decide +kernel
theorem dX12_inconsistencies_74 : decode cX12_inconsistencies 74 = .ok (.iload 4, 2) := by decide +kernel
theorem dX12_inconsistencies_76 : decode cX12_inconsistencies 76 = .ok (.iadd, 1) := by decide +kernel
theorem dX12_inconsistencies_77 : decode cX12_inconsistencies 77 = .ok (.invokevirtual 95, 3) := by decide +kernel
theorem dX12_inconsistencies_80 : decode cX12_inconsistencies 80 = .ok (.bipush 21, 2) := by decide +kernel
theorem dX12_inconsistencies_82 : decode cX12_inconsistencies 82 = .ok (.invokevirtual 95, 3) := by decide +kernel
theorem dX12_inconsistencies_85 : decode cX12_inconsistencies 85 = .ok (.ifCond .ne 7, 3) := by decide +kernel
theorem dX12_inconsistencies_88 : decode cX12_inconsistencies 88 = .ok (.iconst 1, 1) := by decide +kernel
theorem dX12_inconsistencies_89 : decode cX12_inconsistencies 89 = .ok (.goto 4, 3) := by decide +kernel
theorem dX12_inconsistencies_92 : decode cX12_inconsistencies 92 = .ok (.iconst 0, 1) := by decide +kernel
theorem dX12_inconsistencies_93 : decode cX12_inconsistencies 93 = .ok (.istore_n 3, 1) := by decide +kernel
theorem dX12_inconsistencies_94 : decode cX12_inconsistencies 94 = .ok (.iinc 4 1, 3) := by decide +kernel
theorem dX12_inconsistencies_97 : decode cX12_inconsistencies 97 = .ok (.goto (-44), 3) := by decide +kernel
theorem dX12_inconsistencies_100 : decode cX12_inconsistencies 100 = .ok (.iload_n 1, 1) := by decide +kernel
theorem dX12_inconsistencies_101 : decode cX12_inconsistencies 101 = .ok (.aload_n 0, 1) := by decide +kernel
theorem dX12_inconsistencies_102 : decode cX12_inconsistencies 102 = .ok (.iload_n 2, 1) := by decide +kernel
theorem dX12_inconsistencies_103 : decode cX12_inconsistencies 103 = .ok (.bipush 17, 2) := by decide +kernel
theorem dX12_inconsistencies_105 : decode cX12_inconsistencies 105 = .ok (.invokevirtual 95, 3) := by decide +kernel
theorem dX12_inconsistencies_108 : decode cX12_inconsistencies 108 = .ok (.iconst 1, 1) := by decide +kernel
theorem dX12_inconsistencies_109 : decode cX12_inconsistencies 109 = .ok (.if_icmp .ne 11, 3) := by decide +kernel
theorem dX12_inconsistencies_112 : decode cX12_inconsistencies 112 = .ok (.iload_n 3, 1) := by decide +kernel
theorem dX12_inconsistencies_113 : decode cX12_inconsistencies 113 = .ok (.ifCond .eq 7, 3) := by decide +kernel
theorem dX12_inconsistencies_116 : decode cX12_inconsistencies 116 = .ok (.iconst 1, 1) := by decide +kernel
theorem dX12_inconsistencies_117 : decode cX12_inconsistencies 117 = .ok (.goto 4, 3) := by decide +kernel
theorem dX12_inconsistencies_120 : decode cX12_inconsistencies 120 = .ok (.iconst 0, 1) := by decide +kernel
theorem dX12_inconsistencies_121 : decode cX12_inconsistencies 121 = .ok (.iadd, 1) := by decide +kernel
theorem dX12_inconsistencies_122 : decode cX12_inconsistencies 122 = .ok (.istore_n 1, 1) := by decide +kernel
theorem dX12_inconsistencies_123 : decode cX12_inconsistencies 123 = .ok (.iinc 2 1, 3) := by decide +kernel
theorem dX12_inconsistencies_126 : decode cX12_inconsistencies 126 = .ok (.goto (-89), 3) := by decide +kernel
theorem dX12_inconsistencies_129 : decode cX12_inconsistencies 129 = .ok (.iload_n 1, 1) := by decide +kernel
theorem dX12_inconsistencies_130 : decode cX12_inconsistencies 130 = .ok (.ireturn, 1) := by decide +kernel
set_option maxRecDepth 20000 in
theorem ggX12_pass_X12_in : GoodIn wsX12_pass wsX12_in := goodIn_r _ [5] rfl (by decide +kernel)
set_option maxRecDepth 20000 in
theorem gX12_pass_X12_in : GoodIn wsX12_pass (va_wsS RX12 87 yX12_in wsX12_in) := goodIn_app (goodIn_of _ (by decide +kernel)) ggX12_pass_X12_in
set_option maxRecDepth 20000 in
theorem ggX12_pass_X12_fails : GoodIn wsX12_pass wsX12_fails := goodIn_r _ [9, 10, 102, 103, 104, 105, 106, 107, 108, 109, 110, 111, 112, 113, 114, 115, 116, 117, 118, 119, 120] rfl (by decide +kernel)
set_option maxRecDepth 20000 in
theorem gX12_pass_X12_fails : GoodIn wsX12_pass (wsV RX12 167 RX12 yX12_fails wsX12_fails) := goodIn_app (goodIn_of _ (by decide +kernel)) ggX12_pass_X12_fails
set_option maxRecDepth 20000 in
theorem ggX12_pass_X12_remember : GoodIn wsX12_pass wsX12_remember := goodIn_r _ [14, 15, 16, 17, 18, 4, 19, 1, 102, 103, 104, 105, 106, 107, 108, 109, 110, 111, 112, 113, 114, 115, 116, 117, 118, 119, 120] rfl (by decide +kernel)
set_option maxRecDepth 20000 in
theorem gX12_pass_X12_remember : GoodIn wsX12_pass (wsV RX12 289 RX12 yX12_remember wsX12_remember) := goodIn_app (goodIn_of _ (by decide +kernel)) ggX12_pass_X12_remember
set_option maxRecDepth 20000 in
theorem ggX12_pass_X12_passMinutes : GoodIn wsX12_pass wsX12_passMinutes := goodIn_r _ [23, 1, 24, 25, 26, 4, 27, 28, 29, 30, 31, 32, 33, 34, 35, 36, 37, 38, 39, 40, 41, 42, 43, 44, 45, 46, 47, 48, 49, 50, 51, 52, 53, 54, 55, 56, 57, 58, 59, 60, 61, 62, 63, 64, 65, 66, 67, 68, 69, 70, 71, 72, 73, 74, 75, 76, 77, 78, 79, 80, 81, 82, 83, 84, 85, 86, 87, 88, 89, 90, 91, 92, 93, 94, 95, 96, 97, 98, 99, 100, 101, 102, 103, 104, 105, 106, 107, 108, 109, 110, 111, 112, 113, 114, 115, 116, 117, 118, 119, 120] rfl (by decide +kernel)
set_option maxRecDepth 20000 in
theorem gX12_pass_X12_passMinutes : GoodIn wsX12_pass (wsV RX12 277 RX12 yX12_passMinutes wsX12_passMinutes) := goodIn_app (goodIn_of _ (by decide +kernel)) ggX12_pass_X12_passMinutes
theorem dX12_pass_0 : decode cX12_pass 0 = .ok (.iload_n 1, 1) := by decide +kernel
theorem dX12_pass_1 : decode cX12_pass 1 = .ok (.iconst 1, 1) := by decide +kernel
theorem dX12_pass_2 : decode cX12_pass 2 = .ok (.sipush 200, 3) := by decide +kernel
theorem dX12_pass_5 : decode cX12_pass 5 = .ok (.invokestatic 87, 3) := by decide +kernel
theorem dX12_pass_8 : decode cX12_pass 8 = .ok (.istore_n 2, 1) := by decide +kernel
theorem dX12_pass_9 : decode cX12_pass 9 = .ok (.aload_n 0, 1) := by decide +kernel
theorem dX12_pass_10 : decode cX12_pass 10 = .ok (.iload_n 2, 1) := by decide +kernel
theorem dX12_pass_11 : decode cX12_pass 11 = .ok (.ifCond .ne 7, 3) := by decide +kernel
theorem dX12_pass_14 : decode cX12_pass 14 = .ok (.iconst 1, 1) := by decide +kernel
theorem dX12_pass_15 : decode cX12_pass 15 = .ok (.goto 4, 3) := by decide +kernel
theorem dX12_pass_18 : decode cX12_pass 18 = .ok (.iconst 0, 1) := by decide +kernel
theorem dX12_pass_19 : decode cX12_pass 19 = .ok (.iload_n 2, 1) := by decide +kernel
theorem dX12_pass_20 : decode cX12_pass 20 = .ok (.ifCond .eq 21, 3) := by decide +kernel
theorem dX12_pass_23 : decode cX12_pass 23 = .ok (.aload_n 0, 1) := by decide +kernel
theorem dX12_pass_24 : decode cX12_pass 24 = .ok (.getfield 13, 3) := by decide +kernel
theorem dX12_pass_27 : decode cX12_pass 27 = .ok (.iconst 4, 1) := by decide +kernel
theorem dX12_pass_28 : decode cX12_pass 28 = .ok (.iaload, 1) := by decide +kernel
theorem dX12_pass_29 : decode cX12_pass 29 = .ok (.iload_n 1, 1) := by decide +kernel
theorem dX12_pass_30 : decode cX12_pass 30 = .ok (.iadd, 1) := by decide +kernel
theorem dX12_pass_31 : decode cX12_pass 31 = .ok (.sipush 9999, 3) := by decide +kernel
theorem dX12_pass_34 : decode cX12_pass 34 = .ok (.if_icmp .le 7, 3) := by decide +kernel
theorem dX12_pass_37 : decode cX12_pass 37 = .ok (.iconst 1, 1) := by decide +kernel
theorem dX12_pass_38 : decode cX12_pass 38 = .ok (.goto 4, 3) := by decide +kernel
theorem dX12_pass_41 : decode cX12_pass 41 = .ok (.iconst 0, 1) := by decide +kernel
theorem dX12_pass_42 : decode cX12_pass 42 = .ok (.iconst 0, 1) := by decide +kernel
theorem dX12_pass_43 : decode cX12_pass 43 = .ok (.invokevirtual 167, 3) := by decide +kernel
theorem dX12_pass_46 : decode cX12_pass 46 = .ok (.ifCond .eq 5, 3) := by decide +kernel
theorem dX12_pass_49 : decode cX12_pass 49 = .ok (.iconst 0, 1) := by decide +kernel
theorem dX12_pass_50 : decode cX12_pass 50 = .ok (.ireturn, 1) := by decide +kernel
theorem dX12_pass_51 : decode cX12_pass 51 = .ok (.aload_n 0, 1) := by decide +kernel
theorem dX12_pass_52 : decode cX12_pass 52 = .ok (.iconst 0, 1) := by decide +kernel
theorem dX12_pass_53 : decode cX12_pass 53 = .ok (.invokevirtual 289, 3) := by decide +kernel
theorem dX12_pass_56 : decode cX12_pass 56 = .ok (.aload_n 0, 1) := by decide +kernel
theorem dX12_pass_57 : decode cX12_pass 57 = .ok (.iload_n 1, 1) := by decide +kernel
theorem dX12_pass_58 : decode cX12_pass 58 = .ok (.invokevirtual 277, 3) := by decide +kernel
theorem dX12_pass_61 : decode cX12_pass 61 = .ok (.ireturn, 1) := by decide +kernel
set_option maxRecDepth 20000 in
theorem ggX12_addSalt_X12_in : GoodIn wsX12_addSalt wsX12_in := goodIn_r _ [5] rfl (by decide +kernel)
set_option maxRecDepth 20000 in
theorem gX12_addSalt_X12_in : GoodIn wsX12_addSalt (va_wsS RX12 87 yX12_in wsX12_in) := goodIn_app (goodIn_of _ (by decide +kernel)) ggX12_addSalt_X12_in
set_option maxRecDepth 20000 in
theorem ggX12_addSalt_X12_fails : GoodIn wsX12_addSalt wsX12_fails := goodIn_r _ [9, 10, 28, 29, 30, 31, 32, 33, 34, 35, 36, 37, 38, 39, 40, 41, 42, 43, 44, 45, 46] rfl (by decide +kernel)
set_option maxRecDepth 20000 in
theorem gX12_addSalt_X12_fails : GoodIn wsX12_addSalt (wsV RX12 167 RX12 yX12_fails wsX12_fails) := goodIn_app (goodIn_of _ (by decide +kernel)) ggX12_addSalt_X12_fails
set_option maxRecDepth 20000 in
theorem ggX12_addSalt_X12_remember : GoodIn wsX12_addSalt wsX12_remember := goodIn_r _ [14, 15, 16, 17, 18, 4, 19, 1, 28, 29, 30, 31, 32, 33, 34, 35, 36, 37, 38, 39, 40, 41, 42, 43, 44, 45, 46] rfl (by decide +kernel)
set_option maxRecDepth 20000 in
theorem gX12_addSalt_X12_remember : GoodIn wsX12_addSalt (wsV RX12 289 RX12 yX12_remember wsX12_remember) := goodIn_app (goodIn_of _ (by decide +kernel)) ggX12_addSalt_X12_remember
set_option maxRecDepth 20000 in
theorem ggX12_addSalt_X12_tasteNow : GoodIn wsX12_addSalt wsX12_tasteNow := goodIn_r _ [23, 1, 24, 25, 26, 4, 27, 28, 29, 30, 31, 32, 33, 34, 35, 36, 37, 38, 39, 40, 41, 42, 43, 44, 45, 46] rfl (by decide +kernel)
set_option maxRecDepth 20000 in
theorem gX12_addSalt_X12_tasteNow : GoodIn wsX12_addSalt (wsV RX12 164 RX12 yX12_tasteNow wsX12_tasteNow) := goodIn_app (goodIn_of _ (by decide +kernel)) ggX12_addSalt_X12_tasteNow
theorem dX12_addSalt_0 : decode cX12_addSalt 0 = .ok (.aload_n 0, 1) := by decide +kernel
theorem dX12_addSalt_1 : decode cX12_addSalt 1 = .ok (.iload_n 1, 1) := by decide +kernel
theorem dX12_addSalt_2 : decode cX12_addSalt 2 = .ok (.bipush (-9), 2) := by decide +kernel
theorem dX12_addSalt_4 : decode cX12_addSalt 4 = .ok (.bipush 9, 2) := by decide +kernel
theorem dX12_addSalt_6 : decode cX12_addSalt 6 = .ok (.invokestatic 87, 3) := by decide +kernel
theorem dX12_addSalt_9 : decode cX12_addSalt 9 = .ok (.ifCond .eq 7, 3) := by decide +kernel
theorem dX12_addSalt_12 : decode cX12_addSalt 12 = .ok (.iload_n 1, 1) := by decide +kernel
theorem dX12_addSalt_13 : decode cX12_addSalt 13 = .ok (.ifCond .ne 7, 3) := by decide +kernel
theorem dX12_addSalt_16 : decode cX12_addSalt 16 = .ok (.iconst 1, 1) := by decide +kernel
theorem dX12_addSalt_17 : decode cX12_addSalt 17 = .ok (.goto 4, 3) := by decide +kernel
theorem dX12_addSalt_20 : decode cX12_addSalt 20 = .ok (.iconst 0, 1) := by decide +kernel
theorem dX12_addSalt_21 : decode cX12_addSalt 21 = .ok (.aload_n 0, 1) := by decide +kernel
theorem dX12_addSalt_22 : decode cX12_addSalt 22 = .ok (.getfield 13, 3) := by decide +kernel
theorem dX12_addSalt_25 : decode cX12_addSalt 25 = .ok (.bipush 6, 2) := by decide +kernel
theorem dX12_addSalt_27 : decode cX12_addSalt 27 = .ok (.iaload, 1) := by decide +kernel
theorem dX12_addSalt_28 : decode cX12_addSalt 28 = .ok (.iconst 1, 1) := by decide +kernel
theorem dX12_addSalt_29 : decode cX12_addSalt 29 = .ok (.if_icmp .ne 7, 3) := by decide +kernel
theorem dX12_addSalt_32 : decode cX12_addSalt 32 = .ok (.iconst 1, 1) := by decide +kernel
theorem dX12_addSalt_33 : decode cX12_addSalt 33 = .ok (.goto 4, 3) := by decide +kernel
theorem dX12_addSalt_36 : decode cX12_addSalt 36 = .ok (.iconst 0, 1) := by decide +kernel
theorem dX12_addSalt_37 : decode cX12_addSalt 37 = .ok (.iconst 0, 1) := by decide +kernel
theorem dX12_addSalt_38 : decode cX12_addSalt 38 = .ok (.invokevirtual 167, 3) := by decide +kernel
theorem dX12_addSalt_41 : decode cX12_addSalt 41 = .ok (.ifCond .eq 5, 3) := by decide +kernel
theorem dX12_addSalt_44 : decode cX12_addSalt 44 = .ok (.iconst 0, 1) := by decide +kernel
theorem dX12_addSalt_45 : decode cX12_addSalt 45 = .ok (.ireturn, 1) := by decide +kernel
theorem dX12_addSalt_46 : decode cX12_addSalt 46 = .ok (.aload_n 0, 1) := by decide +kernel
theorem dX12_addSalt_47 : decode cX12_addSalt 47 = .ok (.iconst 0, 1) := by decide +kernel
theorem dX12_addSalt_48 : decode cX12_addSalt 48 = .ok (.invokevirtual 289, 3) := by decide +kernel
theorem dX12_addSalt_51 : decode cX12_addSalt 51 = .ok (.aload_n 0, 1) := by decide +kernel
theorem dX12_addSalt_52 : decode cX12_addSalt 52 = .ok (.getfield 13, 3) := by decide +kernel
theorem dX12_addSalt_55 : decode cX12_addSalt 55 = .ok (.iconst 5, 1) := by decide +kernel
theorem dX12_addSalt_56 : decode cX12_addSalt 56 = .ok (.dup2, 1) := by decide +kernel
theorem dX12_addSalt_57 : decode cX12_addSalt 57 = .ok (.iaload, 1) := by decide +kernel
theorem dX12_addSalt_58 : decode cX12_addSalt 58 = .ok (.iload_n 1, 1) := by decide +kernel
theorem dX12_addSalt_59 : decode cX12_addSalt 59 = .ok (.iadd, 1) := by decide +kernel
theorem dX12_addSalt_60 : decode cX12_addSalt 60 = .ok (.iastore, 1) := by decide +kernel
theorem dX12_addSalt_61 : decode cX12_addSalt 61 = .ok (.aload_n 0, 1) := by decide +kernel
theorem dX12_addSalt_62 : decode cX12_addSalt 62 = .ok (.invokevirtual 164, 3) := by decide +kernel
theorem dX12_addSalt_65 : decode cX12_addSalt 65 = .ok (.ireturn, 1) := by decide +kernel
set_option maxRecDepth 20000 in
theorem ggX12_stop_X12_isStep : GoodIn wsX12_stop wsX12_isStep := goodIn_r _ [5, 6, 7, 8, 4, 9, 36, 37, 38, 39, 40, 41, 42, 43, 44, 45, 46, 47, 48, 49, 50, 51, 52, 53, 54] rfl (by decide +kernel)
set_option maxRecDepth 20000 in
theorem gX12_stop_X12_isStep : GoodIn wsX12_stop (wsV RX12 304 RX12 yX12_isStep wsX12_isStep) := goodIn_app (goodIn_of _ (by decide +kernel)) ggX12_stop_X12_isStep
set_option maxRecDepth 20000 in
theorem ggX12_stop_X12_of : GoodIn wsX12_stop wsX12_of := goodIn_r _ [13, 6, 36, 37, 38, 39, 40, 41, 42, 43, 44, 45, 46, 47, 48, 49, 50, 51, 52, 53, 54] rfl (by decide +kernel)
set_option maxRecDepth 20000 in
theorem gX12_stop_X12_of : GoodIn wsX12_stop (wsV RX12 95 RX12 yX12_of wsX12_of) := goodIn_app (goodIn_of _ (by decide +kernel)) ggX12_stop_X12_of
set_option maxRecDepth 20000 in
theorem ggX12_stop_X12_fails : GoodIn wsX12_stop wsX12_fails := goodIn_r _ [17, 18, 36, 37, 38, 39, 40, 41, 42, 43, 44, 45, 46, 47, 48, 49, 50, 51, 52, 53, 54] rfl (by decide +kernel)
set_option maxRecDepth 20000 in
theorem gX12_stop_X12_fails : GoodIn wsX12_stop (wsV RX12 167 RX12 yX12_fails wsX12_fails) := goodIn_app (goodIn_of _ (by decide +kernel)) ggX12_stop_X12_fails
set_option maxRecDepth 20000 in
theorem ggX12_stop_X12_remember : GoodIn wsX12_stop wsX12_remember := goodIn_r _ [22, 23, 24, 25, 26, 4, 27, 6, 36, 37, 38, 39, 40, 41, 42, 43, 44, 45, 46, 47, 48, 49, 50, 51, 52, 53, 54] rfl (by decide +kernel)
set_option maxRecDepth 20000 in
theorem gX12_stop_X12_remember : GoodIn wsX12_stop (wsV RX12 289 RX12 yX12_remember wsX12_remember) := goodIn_app (goodIn_of _ (by decide +kernel)) ggX12_stop_X12_remember
set_option maxRecDepth 20000 in
theorem ggX12_stop_X12_stopIt : GoodIn wsX12_stop wsX12_stopIt := goodIn_r _ [31, 6, 10, 11, 12, 4, 13, 32, 33, 34, 35, 36, 37, 38, 39, 40, 41, 42, 43, 44, 45, 46, 47, 48, 49, 50, 51, 52, 53, 54] rfl (by decide +kernel)
set_option maxRecDepth 20000 in
theorem gX12_stop_X12_stopIt : GoodIn wsX12_stop (wsV RX12 280 RX12 yX12_stopIt wsX12_stopIt) := goodIn_app (goodIn_of _ (by decide +kernel)) ggX12_stop_X12_stopIt
theorem dX12_stop_0 : decode cX12_stop 0 = .ok (.aload_n 0, 1) := by decide +kernel
theorem dX12_stop_1 : decode cX12_stop 1 = .ok (.iload_n 1, 1) := by decide +kernel
theorem dX12_stop_2 : decode cX12_stop 2 = .ok (.invokevirtual 304, 3) := by decide +kernel
theorem dX12_stop_5 : decode cX12_stop 5 = .ok (.istore_n 2, 1) := by decide +kernel
theorem dX12_stop_6 : decode cX12_stop 6 = .ok (.aload_n 0, 1) := by decide +kernel
theorem dX12_stop_7 : decode cX12_stop 7 = .ok (.iload_n 2, 1) := by decide +kernel
theorem dX12_stop_8 : decode cX12_stop 8 = .ok (.ifCond .ne 7, 3) := by decide +kernel
theorem dX12_stop_11 : decode cX12_stop 11 = .ok (.iconst 1, 1) := by decide +kernel
theorem dX12_stop_12 : decode cX12_stop 12 = .ok (.goto 4, 3) := by decide +kernel
theorem dX12_stop_15 : decode cX12_stop 15 = .ok (.iconst 0, 1) := by decide +kernel
theorem dX12_stop_16 : decode cX12_stop 16 = .ok (.iload_n 2, 1) := by decide +kernel
theorem dX12_stop_17 : decode cX12_stop 17 = .ok (.ifCond .eq 18, 3) := by decide +kernel
theorem dX12_stop_20 : decode cX12_stop 20 = .ok (.aload_n 0, 1) := by decide +kernel
theorem dX12_stop_21 : decode cX12_stop 21 = .ok (.iload_n 1, 1) := by decide +kernel
theorem dX12_stop_22 : decode cX12_stop 22 = .ok (.bipush 17, 2) := by decide +kernel
theorem dX12_stop_24 : decode cX12_stop 24 = .ok (.invokevirtual 95, 3) := by decide +kernel
theorem dX12_stop_27 : decode cX12_stop 27 = .ok (.iconst 1, 1) := by decide +kernel
theorem dX12_stop_28 : decode cX12_stop 28 = .ok (.if_icmp .eq 7, 3) := by decide +kernel
theorem dX12_stop_31 : decode cX12_stop 31 = .ok (.iconst 1, 1) := by decide +kernel
theorem dX12_stop_32 : decode cX12_stop 32 = .ok (.goto 4, 3) := by decide +kernel
theorem dX12_stop_35 : decode cX12_stop 35 = .ok (.iconst 0, 1) := by decide +kernel
theorem dX12_stop_36 : decode cX12_stop 36 = .ok (.iconst 0, 1) := by decide +kernel
theorem dX12_stop_37 : decode cX12_stop 37 = .ok (.invokevirtual 167, 3) := by decide +kernel
theorem dX12_stop_40 : decode cX12_stop 40 = .ok (.ifCond .eq 5, 3) := by decide +kernel
theorem dX12_stop_43 : decode cX12_stop 43 = .ok (.iconst 0, 1) := by decide +kernel
theorem dX12_stop_44 : decode cX12_stop 44 = .ok (.ireturn, 1) := by decide +kernel
theorem dX12_stop_45 : decode cX12_stop 45 = .ok (.aload_n 0, 1) := by decide +kernel
theorem dX12_stop_46 : decode cX12_stop 46 = .ok (.iconst 0, 1) := by decide +kernel
theorem dX12_stop_47 : decode cX12_stop 47 = .ok (.invokevirtual 289, 3) := by decide +kernel
theorem dX12_stop_50 : decode cX12_stop 50 = .ok (.aload_n 0, 1) := by decide +kernel
theorem dX12_stop_51 : decode cX12_stop 51 = .ok (.iload_n 1, 1) := by decide +kernel
theorem dX12_stop_52 : decode cX12_stop 52 = .ok (.invokevirtual 280, 3) := by decide +kernel
theorem dX12_stop_55 : decode cX12_stop 55 = .ok (.ireturn, 1) := by decide +kernel
set_option maxRecDepth 20000 in
theorem ggX12_redo_X12_isStep : GoodIn wsX12_redo wsX12_isStep := goodIn_r _ [5, 6, 7, 8, 4, 9, 52, 53, 54, 55, 56, 57, 58, 59, 60, 61, 62, 63, 64, 65, 66, 67, 68, 69, 70] rfl (by decide +kernel)
set_option maxRecDepth 20000 in
theorem gX12_redo_X12_isStep : GoodIn wsX12_redo (wsV RX12 304 RX12 yX12_isStep wsX12_isStep) := goodIn_app (goodIn_of _ (by decide +kernel)) ggX12_redo_X12_isStep
set_option maxRecDepth 20000 in
theorem ggX12_redo_X12_canRedo : GoodIn wsX12_redo wsX12_canRedo := goodIn_r _ [13, 6, 14, 15, 16, 4, 17, 18, 19, 20, 21, 22, 23, 24, 25, 26, 27, 28, 29, 52, 53, 54, 55, 56, 57, 58, 59, 60, 61, 62, 63, 64, 65, 66, 67, 68, 69, 70] rfl (by decide +kernel)
set_option maxRecDepth 20000 in
theorem gX12_redo_X12_canRedo : GoodIn wsX12_redo (wsV RX12 271 RX12 yX12_canRedo wsX12_canRedo) := goodIn_app (goodIn_of _ (by decide +kernel)) ggX12_redo_X12_canRedo
set_option maxRecDepth 20000 in
theorem ggX12_redo_X12_fails : GoodIn wsX12_redo wsX12_fails := goodIn_r _ [33, 34, 52, 53, 54, 55, 56, 57, 58, 59, 60, 61, 62, 63, 64, 65, 66, 67, 68, 69, 70] rfl (by decide +kernel)
set_option maxRecDepth 20000 in
theorem gX12_redo_X12_fails : GoodIn wsX12_redo (wsV RX12 167 RX12 yX12_fails wsX12_fails) := goodIn_app (goodIn_of _ (by decide +kernel)) ggX12_redo_X12_fails
set_option maxRecDepth 20000 in
theorem ggX12_redo_X12_remember : GoodIn wsX12_redo wsX12_remember := goodIn_r _ [38, 39, 40, 41, 42, 4, 43, 6, 52, 53, 54, 55, 56, 57, 58, 59, 60, 61, 62, 63, 64, 65, 66, 67, 68, 69, 70] rfl (by decide +kernel)
set_option maxRecDepth 20000 in
theorem gX12_redo_X12_remember : GoodIn wsX12_redo (wsV RX12 289 RX12 yX12_remember wsX12_remember) := goodIn_app (goodIn_of _ (by decide +kernel)) ggX12_redo_X12_remember
set_option maxRecDepth 20000 in
theorem ggX12_redo_X12_redoIt : GoodIn wsX12_redo wsX12_redoIt := goodIn_r _ [47, 14, 15, 16, 4, 17, 6, 48, 49, 50, 51, 52, 53, 54, 55, 56, 57, 58, 59, 60, 61, 62, 63, 64, 65, 66, 67, 68, 69, 70] rfl (by decide +kernel)
set_option maxRecDepth 20000 in
theorem gX12_redo_X12_redoIt : GoodIn wsX12_redo (wsV RX12 283 RX12 yX12_redoIt wsX12_redoIt) := goodIn_app (goodIn_of _ (by decide +kernel)) ggX12_redo_X12_redoIt
theorem dX12_redo_0 : decode cX12_redo 0 = .ok (.aload_n 0, 1) := by decide +kernel
theorem dX12_redo_1 : decode cX12_redo 1 = .ok (.iload_n 1, 1) := by decide +kernel
theorem dX12_redo_2 : decode cX12_redo 2 = .ok (.invokevirtual 304, 3) := by decide +kernel
theorem dX12_redo_5 : decode cX12_redo 5 = .ok (.istore_n 2, 1) := by decide +kernel
theorem dX12_redo_6 : decode cX12_redo 6 = .ok (.aload_n 0, 1) := by decide +kernel
theorem dX12_redo_7 : decode cX12_redo 7 = .ok (.iload_n 2, 1) := by decide +kernel
theorem dX12_redo_8 : decode cX12_redo 8 = .ok (.ifCond .ne 7, 3) := by decide +kernel
theorem dX12_redo_11 : decode cX12_redo 11 = .ok (.iconst 1, 1) := by decide +kernel
theorem dX12_redo_12 : decode cX12_redo 12 = .ok (.goto 4, 3) := by decide +kernel
theorem dX12_redo_15 : decode cX12_redo 15 = .ok (.iconst 0, 1) := by decide +kernel
theorem dX12_redo_16 : decode cX12_redo 16 = .ok (.iload_n 2, 1) := by decide +kernel
theorem dX12_redo_17 : decode cX12_redo 17 = .ok (.ifCond .eq 15, 3) := by decide +kernel
theorem dX12_redo_20 : decode cX12_redo 20 = .ok (.aload_n 0, 1) := by decide +kernel
theorem dX12_redo_21 : decode cX12_redo 21 = .ok (.iload_n 1, 1) := by decide +kernel
theorem dX12_redo_22 : decode cX12_redo 22 = .ok (.invokevirtual 271, 3) := by decide +kernel
theorem dX12_redo_25 : decode cX12_redo 25 = .ok (.ifCond .ne 7, 3) := by decide +kernel
theorem dX12_redo_28 : decode cX12_redo 28 = .ok (.iconst 1, 1) := by decide +kernel
theorem dX12_redo_29 : decode cX12_redo 29 = .ok (.goto 4, 3) := by decide +kernel
theorem dX12_redo_32 : decode cX12_redo 32 = .ok (.iconst 0, 1) := by decide +kernel
theorem dX12_redo_33 : decode cX12_redo 33 = .ok (.iconst 0, 1) := by decide +kernel
theorem dX12_redo_34 : decode cX12_redo 34 = .ok (.invokevirtual 167, 3) := by decide +kernel
theorem dX12_redo_37 : decode cX12_redo 37 = .ok (.ifCond .eq 5, 3) := by decide +kernel
theorem dX12_redo_40 : decode cX12_redo 40 = .ok (.iconst 0, 1) := by decide +kernel
theorem dX12_redo_41 : decode cX12_redo 41 = .ok (.ireturn, 1) := by decide +kernel
theorem dX12_redo_42 : decode cX12_redo 42 = .ok (.aload_n 0, 1) := by decide +kernel
theorem dX12_redo_43 : decode cX12_redo 43 = .ok (.iconst 0, 1) := by decide +kernel
theorem dX12_redo_44 : decode cX12_redo 44 = .ok (.invokevirtual 289, 3) := by decide +kernel
theorem dX12_redo_47 : decode cX12_redo 47 = .ok (.aload_n 0, 1) := by decide +kernel
theorem dX12_redo_48 : decode cX12_redo 48 = .ok (.iload_n 1, 1) := by decide +kernel
theorem dX12_redo_49 : decode cX12_redo 49 = .ok (.invokevirtual 283, 3) := by decide +kernel
theorem dX12_redo_52 : decode cX12_redo 52 = .ok (.ireturn, 1) := by decide +kernel
set_option maxRecDepth 20000 in
theorem ggX12_setCooks_X12_in : GoodIn wsX12_setCooks wsX12_in := goodIn_r _ [5] rfl (by decide +kernel)
set_option maxRecDepth 20000 in
theorem gX12_setCooks_X12_in : GoodIn wsX12_setCooks (va_wsS RX12 87 yX12_in wsX12_in) := goodIn_app (goodIn_of _ (by decide +kernel)) ggX12_setCooks_X12_in
set_option maxRecDepth 20000 in
theorem ggX12_setCooks_X12_fails : GoodIn wsX12_setCooks wsX12_fails := goodIn_r _ [9, 10, 20, 21, 22, 23, 24, 25, 26, 27, 28, 29, 30, 31, 32, 33, 34, 35, 36, 37, 38] rfl (by decide +kernel)
set_option maxRecDepth 20000 in
theorem gX12_setCooks_X12_fails : GoodIn wsX12_setCooks (wsV RX12 167 RX12 yX12_fails wsX12_fails) := goodIn_app (goodIn_of _ (by decide +kernel)) ggX12_setCooks_X12_fails
set_option maxRecDepth 20000 in
theorem ggX12_setCooks_X12_remember : GoodIn wsX12_setCooks wsX12_remember := goodIn_r _ [14, 15, 16, 17, 18, 4, 19, 1, 20, 21, 22, 23, 24, 25, 26, 27, 28, 29, 30, 31, 32, 33, 34, 35, 36, 37, 38] rfl (by decide +kernel)
set_option maxRecDepth 20000 in
theorem gX12_setCooks_X12_remember : GoodIn wsX12_setCooks (wsV RX12 289 RX12 yX12_remember wsX12_remember) := goodIn_app (goodIn_of _ (by decide +kernel)) ggX12_setCooks_X12_remember
theorem dX12_setCooks_0 : decode cX12_setCooks 0 = .ok (.aload_n 0, 1) := by decide +kernel
theorem dX12_setCooks_1 : decode cX12_setCooks 1 = .ok (.iload_n 1, 1) := by decide +kernel
theorem dX12_setCooks_2 : decode cX12_setCooks 2 = .ok (.iconst 1, 1) := by decide +kernel
theorem dX12_setCooks_3 : decode cX12_setCooks 3 = .ok (.iconst 4, 1) := by decide +kernel
theorem dX12_setCooks_4 : decode cX12_setCooks 4 = .ok (.invokestatic 87, 3) := by decide +kernel
theorem dX12_setCooks_7 : decode cX12_setCooks 7 = .ok (.ifCond .ne 7, 3) := by decide +kernel
theorem dX12_setCooks_10 : decode cX12_setCooks 10 = .ok (.iconst 1, 1) := by decide +kernel
theorem dX12_setCooks_11 : decode cX12_setCooks 11 = .ok (.goto 4, 3) := by decide +kernel
theorem dX12_setCooks_14 : decode cX12_setCooks 14 = .ok (.iconst 0, 1) := by decide +kernel
theorem dX12_setCooks_15 : decode cX12_setCooks 15 = .ok (.iconst 0, 1) := by decide +kernel
theorem dX12_setCooks_16 : decode cX12_setCooks 16 = .ok (.iconst 0, 1) := by decide +kernel
theorem dX12_setCooks_17 : decode cX12_setCooks 17 = .ok (.invokevirtual 167, 3) := by decide +kernel
theorem dX12_setCooks_20 : decode cX12_setCooks 20 = .ok (.ifCond .eq 5, 3) := by decide +kernel
theorem dX12_setCooks_23 : decode cX12_setCooks 23 = .ok (.iconst 0, 1) := by decide +kernel
theorem dX12_setCooks_24 : decode cX12_setCooks 24 = .ok (.ireturn, 1) := by decide +kernel
theorem dX12_setCooks_25 : decode cX12_setCooks 25 = .ok (.aload_n 0, 1) := by decide +kernel
theorem dX12_setCooks_26 : decode cX12_setCooks 26 = .ok (.iconst 0, 1) := by decide +kernel
theorem dX12_setCooks_27 : decode cX12_setCooks 27 = .ok (.invokevirtual 289, 3) := by decide +kernel
theorem dX12_setCooks_30 : decode cX12_setCooks 30 = .ok (.aload_n 0, 1) := by decide +kernel
theorem dX12_setCooks_31 : decode cX12_setCooks 31 = .ok (.getfield 13, 3) := by decide +kernel
theorem dX12_setCooks_34 : decode cX12_setCooks 34 = .ok (.iconst 0, 1) := by decide +kernel
theorem dX12_setCooks_35 : decode cX12_setCooks 35 = .ok (.iaload, 1) := by decide +kernel
theorem dX12_setCooks_36 : decode cX12_setCooks 36 = .ok (.istore_n 2, 1) := by decide +kernel
theorem dX12_setCooks_37 : decode cX12_setCooks 37 = .ok (.aload_n 0, 1) := by decide +kernel
theorem dX12_setCooks_38 : decode cX12_setCooks 38 = .ok (.getfield 13, 3) := by decide +kernel
theorem dX12_setCooks_41 : decode cX12_setCooks 41 = .ok (.iconst 0, 1) := by decide +kernel
theorem dX12_setCooks_42 : decode cX12_setCooks 42 = .ok (.iload_n 1, 1) := by decide +kernel
theorem dX12_setCooks_43 : decode cX12_setCooks 43 = .ok (.iastore, 1) := by decide +kernel
theorem dX12_setCooks_44 : decode cX12_setCooks 44 = .ok (.iload_n 2, 1) := by decide +kernel
theorem dX12_setCooks_45 : decode cX12_setCooks 45 = .ok (.ireturn, 1) := by decide +kernel
set_option maxRecDepth 20000 in
theorem ggX12_setDuration_X12_isStep : GoodIn wsX12_setDuration wsX12_isStep := goodIn_r _ [5, 6, 7, 8, 4, 9, 32, 33, 34, 35, 36, 37, 38, 39, 40, 41, 42, 43, 44, 45, 46, 47, 48, 49, 50] rfl (by decide +kernel)
set_option maxRecDepth 20000 in
theorem gX12_setDuration_X12_isStep : GoodIn wsX12_setDuration (wsV RX12 304 RX12 yX12_isStep wsX12_isStep) := goodIn_app (goodIn_of _ (by decide +kernel)) ggX12_setDuration_X12_isStep
set_option maxRecDepth 20000 in
theorem ggX12_setDuration_X12_in : GoodIn wsX12_setDuration wsX12_in := goodIn_r _ [9] rfl (by decide +kernel)
set_option maxRecDepth 20000 in
theorem gX12_setDuration_X12_in : GoodIn wsX12_setDuration (va_wsS RX12 87 yX12_in wsX12_in) := goodIn_app (goodIn_of _ (by decide +kernel)) ggX12_setDuration_X12_in
set_option maxRecDepth 20000 in
theorem ggX12_setDuration_X12_fails : GoodIn wsX12_setDuration wsX12_fails := goodIn_r _ [13, 14, 32, 33, 34, 35, 36, 37, 38, 39, 40, 41, 42, 43, 44, 45, 46, 47, 48, 49, 50] rfl (by decide +kernel)
set_option maxRecDepth 20000 in
theorem gX12_setDuration_X12_fails : GoodIn wsX12_setDuration (wsV RX12 167 RX12 yX12_fails wsX12_fails) := goodIn_app (goodIn_of _ (by decide +kernel)) ggX12_setDuration_X12_fails
set_option maxRecDepth 20000 in
theorem ggX12_setDuration_X12_remember : GoodIn wsX12_setDuration wsX12_remember := goodIn_r _ [18, 19, 20, 21, 22, 4, 23, 6, 32, 33, 34, 35, 36, 37, 38, 39, 40, 41, 42, 43, 44, 45, 46, 47, 48, 49, 50] rfl (by decide +kernel)
set_option maxRecDepth 20000 in
theorem gX12_setDuration_X12_remember : GoodIn wsX12_setDuration (wsV RX12 289 RX12 yX12_remember wsX12_remember) := goodIn_app (goodIn_of _ (by decide +kernel)) ggX12_setDuration_X12_remember
set_option maxRecDepth 20000 in
theorem ggX12_setDuration_X12_of : GoodIn wsX12_setDuration wsX12_of := goodIn_r _ [27, 6, 32, 33, 34, 35, 36, 37, 38, 39, 40, 41, 42, 43, 44, 45, 46, 47, 48, 49, 50] rfl (by decide +kernel)
set_option maxRecDepth 20000 in
theorem gX12_setDuration_X12_of : GoodIn wsX12_setDuration (wsV RX12 95 RX12 yX12_of wsX12_of) := goodIn_app (goodIn_of _ (by decide +kernel)) ggX12_setDuration_X12_of
set_option maxRecDepth 20000 in
theorem ggX12_setDuration_X12_set : GoodIn wsX12_setDuration wsX12_set := goodIn_r _ [31, 6, 32, 33, 34, 35, 36, 37, 38, 39, 40, 41, 42, 43, 44, 45, 46, 47, 48, 49, 50] rfl (by decide +kernel)
set_option maxRecDepth 20000 in
theorem gX12_setDuration_X12_set : GoodIn wsX12_setDuration (wsV RX12 126 RX12 yX12_set wsX12_set) := goodIn_app (goodIn_of _ (by decide +kernel)) ggX12_setDuration_X12_set
theorem dX12_setDuration_0 : decode cX12_setDuration 0 = .ok (.aload_n 0, 1) := by decide +kernel
theorem dX12_setDuration_1 : decode cX12_setDuration 1 = .ok (.aload_n 0, 1) := by decide +kernel
theorem dX12_setDuration_2 : decode cX12_setDuration 2 = .ok (.iload_n 1, 1) := by decide +kernel
theorem dX12_setDuration_3 : decode cX12_setDuration 3 = .ok (.invokevirtual 304, 3) := by decide +kernel
theorem dX12_setDuration_6 : decode cX12_setDuration 6 = .ok (.ifCond .ne 7, 3) := by decide +kernel
theorem dX12_setDuration_9 : decode cX12_setDuration 9 = .ok (.iconst 1, 1) := by decide +kernel
theorem dX12_setDuration_10 : decode cX12_setDuration 10 = .ok (.goto 4, 3) := by decide +kernel
theorem dX12_setDuration_13 : decode cX12_setDuration 13 = .ok (.iconst 0, 1) := by decide +kernel
theorem dX12_setDuration_14 : decode cX12_setDuration 14 = .ok (.iload_n 2, 1) := by decide +kernel
theorem dX12_setDuration_15 : decode cX12_setDuration 15 = .ok (.iconst 1, 1) := by decide +kernel
theorem dX12_setDuration_16 : decode cX12_setDuration 16 = .ok (.bipush 60, 2) := by decide +kernel
theorem dX12_setDuration_18 : decode cX12_setDuration 18 = .ok (.invokestatic 87, 3) := by decide +kernel
theorem dX12_setDuration_21 : decode cX12_setDuration 21 = .ok (.ifCond .ne 7, 3) := by decide +kernel
theorem dX12_setDuration_24 : decode cX12_setDuration 24 = .ok (.iconst 1, 1) := by decide +kernel
theorem dX12_setDuration_25 : decode cX12_setDuration 25 = .ok (.goto 4, 3) := by decide +kernel
theorem dX12_setDuration_28 : decode cX12_setDuration 28 = .ok (.iconst 0, 1) := by decide +kernel
theorem dX12_setDuration_29 : decode cX12_setDuration 29 = .ok (.iconst 0, 1) := by decide +kernel
theorem dX12_setDuration_30 : decode cX12_setDuration 30 = .ok (.invokevirtual 167, 3) := by decide +kernel
theorem dX12_setDuration_33 : decode cX12_setDuration 33 = .ok (.ifCond .eq 5, 3) := by decide +kernel
theorem dX12_setDuration_36 : decode cX12_setDuration 36 = .ok (.iconst 0, 1) := by decide +kernel
theorem dX12_setDuration_37 : decode cX12_setDuration 37 = .ok (.ireturn, 1) := by decide +kernel
theorem dX12_setDuration_38 : decode cX12_setDuration 38 = .ok (.aload_n 0, 1) := by decide +kernel
theorem dX12_setDuration_39 : decode cX12_setDuration 39 = .ok (.iconst 0, 1) := by decide +kernel
theorem dX12_setDuration_40 : decode cX12_setDuration 40 = .ok (.invokevirtual 289, 3) := by decide +kernel
theorem dX12_setDuration_43 : decode cX12_setDuration 43 = .ok (.aload_n 0, 1) := by decide +kernel
theorem dX12_setDuration_44 : decode cX12_setDuration 44 = .ok (.iload_n 1, 1) := by decide +kernel
theorem dX12_setDuration_45 : decode cX12_setDuration 45 = .ok (.bipush 7, 2) := by decide +kernel
theorem dX12_setDuration_47 : decode cX12_setDuration 47 = .ok (.invokevirtual 95, 3) := by decide +kernel
theorem dX12_setDuration_50 : decode cX12_setDuration 50 = .ok (.istore_n 3, 1) := by decide +kernel
theorem dX12_setDuration_51 : decode cX12_setDuration 51 = .ok (.aload_n 0, 1) := by decide +kernel
theorem dX12_setDuration_52 : decode cX12_setDuration 52 = .ok (.iload_n 1, 1) := by decide +kernel
theorem dX12_setDuration_53 : decode cX12_setDuration 53 = .ok (.bipush 7, 2) := by decide +kernel
theorem dX12_setDuration_55 : decode cX12_setDuration 55 = .ok (.iload_n 2, 1) := by decide +kernel
theorem dX12_setDuration_56 : decode cX12_setDuration 56 = .ok (.invokevirtual 126, 3) := by decide +kernel
theorem dX12_setDuration_59 : decode cX12_setDuration 59 = .ok (.iload_n 3, 1) := by decide +kernel
theorem dX12_setDuration_60 : decode cX12_setDuration 60 = .ok (.ireturn, 1) := by decide +kernel
set_option maxRecDepth 20000 in
theorem ggX12_serve_X12_servingReason : GoodIn wsX12_serve wsX12_servingReason := goodIn_r _ [6, 1, 7, 8, 9, 5, 10, 11, 12, 13, 14, 15, 16, 17, 18, 19, 20, 21, 22, 37, 38, 39, 40, 41, 42, 43, 44, 45, 46, 47, 48, 49, 50, 51, 52, 53, 54, 55] rfl (by decide +kernel)
set_option maxRecDepth 20000 in
theorem gX12_serve_X12_servingReason : GoodIn wsX12_serve (wsV RX12 274 RX12 yX12_servingReason wsX12_servingReason) := goodIn_app (goodIn_of _ (by decide +kernel)) ggX12_serve_X12_servingReason
set_option maxRecDepth 20000 in
theorem ggX12_serve_X12_fails : GoodIn wsX12_serve wsX12_fails := goodIn_r _ [26, 27, 37, 38, 39, 40, 41, 42, 43, 44, 45, 46, 47, 48, 49, 50, 51, 52, 53, 54, 55] rfl (by decide +kernel)
set_option maxRecDepth 20000 in
theorem gX12_serve_X12_fails : GoodIn wsX12_serve (wsV RX12 167 RX12 yX12_fails wsX12_fails) := goodIn_app (goodIn_of _ (by decide +kernel)) ggX12_serve_X12_fails
set_option maxRecDepth 20000 in
theorem ggX12_serve_X12_remember : GoodIn wsX12_serve wsX12_remember := goodIn_r _ [31, 32, 33, 34, 35, 5, 36, 1, 37, 38, 39, 40, 41, 42, 43, 44, 45, 46, 47, 48, 49, 50, 51, 52, 53, 54, 55] rfl (by decide +kernel)
set_option maxRecDepth 20000 in
theorem gX12_serve_X12_remember : GoodIn wsX12_serve (wsV RX12 289 RX12 yX12_remember wsX12_remember) := goodIn_app (goodIn_of _ (by decide +kernel)) ggX12_serve_X12_remember
set_option maxRecDepth 20000 in
theorem ggX12_serve_X12_tasteNow : GoodIn wsX12_serve wsX12_tasteNow := goodIn_r _ [22, 1, 11, 12, 13, 5, 14, 37, 38, 39, 40, 41, 42, 43, 44, 45, 46, 47, 48, 49, 50, 51, 52, 53, 54, 55] rfl (by decide +kernel)
set_option maxRecDepth 20000 in
theorem gX12_serve_X12_tasteNow : GoodIn wsX12_serve (wsV RX12 164 RX12 yX12_tasteNow wsX12_tasteNow) := goodIn_app (goodIn_of _ (by decide +kernel)) ggX12_serve_X12_tasteNow
theorem dX12_serve_0 : decode cX12_serve 0 = .ok (.aload_n 0, 1) := by decide +kernel
theorem dX12_serve_1 : decode cX12_serve 1 = .ok (.aload_n 0, 1) := by decide +kernel
theorem dX12_serve_2 : decode cX12_serve 2 = .ok (.invokevirtual 274, 3) := by decide +kernel
theorem dX12_serve_5 : decode cX12_serve 5 = .ok (.ifCond .eq 7, 3) := by decide +kernel
theorem dX12_serve_8 : decode cX12_serve 8 = .ok (.iconst 1, 1) := by decide +kernel
theorem dX12_serve_9 : decode cX12_serve 9 = .ok (.goto 4, 3) := by decide +kernel
theorem dX12_serve_12 : decode cX12_serve 12 = .ok (.iconst 0, 1) := by decide +kernel
theorem dX12_serve_13 : decode cX12_serve 13 = .ok (.iconst 0, 1) := by decide +kernel
theorem dX12_serve_14 : decode cX12_serve 14 = .ok (.iconst 0, 1) := by decide +kernel
theorem dX12_serve_15 : decode cX12_serve 15 = .ok (.invokevirtual 167, 3) := by decide +kernel
theorem dX12_serve_18 : decode cX12_serve 18 = .ok (.ifCond .eq 5, 3) := by decide +kernel
theorem dX12_serve_21 : decode cX12_serve 21 = .ok (.iconst 0, 1) := by decide +kernel
theorem dX12_serve_22 : decode cX12_serve 22 = .ok (.ireturn, 1) := by decide +kernel
theorem dX12_serve_23 : decode cX12_serve 23 = .ok (.aload_n 0, 1) := by decide +kernel
theorem dX12_serve_24 : decode cX12_serve 24 = .ok (.iconst 0, 1) := by decide +kernel
theorem dX12_serve_25 : decode cX12_serve 25 = .ok (.invokevirtual 289, 3) := by decide +kernel
theorem dX12_serve_28 : decode cX12_serve 28 = .ok (.aload_n 0, 1) := by decide +kernel
theorem dX12_serve_29 : decode cX12_serve 29 = .ok (.getfield 13, 3) := by decide +kernel
theorem dX12_serve_32 : decode cX12_serve 32 = .ok (.bipush 6, 2) := by decide +kernel
theorem dX12_serve_34 : decode cX12_serve 34 = .ok (.iconst 1, 1) := by decide +kernel
theorem dX12_serve_35 : decode cX12_serve 35 = .ok (.iastore, 1) := by decide +kernel
theorem dX12_serve_36 : decode cX12_serve 36 = .ok (.aload_n 0, 1) := by decide +kernel
theorem dX12_serve_37 : decode cX12_serve 37 = .ok (.invokevirtual 164, 3) := by decide +kernel
theorem dX12_serve_40 : decode cX12_serve 40 = .ok (.ireturn, 1) := by decide +kernel
set_option maxRecDepth 20000 in
theorem ggX12_undo_X12_fails : GoodIn wsX12_undo wsX12_fails := goodIn_r _ [6, 7, 13, 14, 15, 16, 17, 18, 19, 20, 21, 22, 23, 24, 25, 26, 27, 28, 29, 30, 31] rfl (by decide +kernel)
set_option maxRecDepth 20000 in
theorem gX12_undo_X12_fails : GoodIn wsX12_undo (wsV RX12 167 RX12 yX12_fails wsX12_fails) := goodIn_app (goodIn_of _ (by decide +kernel)) ggX12_undo_X12_fails
set_option maxRecDepth 20000 in
theorem ggX12_undo_X12_copyBlock : GoodIn wsX12_undo wsX12_copyBlock := goodIn_r _ [11, 12, 13, 14, 15, 16, 17, 18, 19, 20, 21, 22, 23, 24, 25, 26, 27, 28, 29, 30, 31] rfl (by decide +kernel)
set_option maxRecDepth 20000 in
theorem gX12_undo_X12_copyBlock : GoodIn wsX12_undo (wsV RX12 91 RX12 yX12_copyBlock wsX12_copyBlock) := goodIn_app (goodIn_of _ (by decide +kernel)) ggX12_undo_X12_copyBlock
theorem dX12_undo_0 : decode cX12_undo 0 = .ok (.aload_n 0, 1) := by decide +kernel
theorem dX12_undo_1 : decode cX12_undo 1 = .ok (.aload_n 0, 1) := by decide +kernel
theorem dX12_undo_2 : decode cX12_undo 2 = .ok (.getfield 21, 3) := by decide +kernel
theorem dX12_undo_5 : decode cX12_undo 5 = .ok (.ifCond .ne 7, 3) := by decide +kernel
theorem dX12_undo_8 : decode cX12_undo 8 = .ok (.iconst 1, 1) := by decide +kernel
theorem dX12_undo_9 : decode cX12_undo 9 = .ok (.goto 4, 3) := by decide +kernel
theorem dX12_undo_12 : decode cX12_undo 12 = .ok (.iconst 0, 1) := by decide +kernel
theorem dX12_undo_13 : decode cX12_undo 13 = .ok (.iconst 0, 1) := by decide +kernel
theorem dX12_undo_14 : decode cX12_undo 14 = .ok (.iconst 0, 1) := by decide +kernel
theorem dX12_undo_15 : decode cX12_undo 15 = .ok (.invokevirtual 167, 3) := by decide +kernel
theorem dX12_undo_18 : decode cX12_undo 18 = .ok (.ifCond .eq 5, 3) := by decide +kernel
theorem dX12_undo_21 : decode cX12_undo 21 = .ok (.iconst 0, 1) := by decide +kernel
theorem dX12_undo_22 : decode cX12_undo 22 = .ok (.ireturn, 1) := by decide +kernel
theorem dX12_undo_23 : decode cX12_undo 23 = .ok (.aload_n 0, 1) := by decide +kernel
theorem dX12_undo_24 : decode cX12_undo 24 = .ok (.aload_n 0, 1) := by decide +kernel
theorem dX12_undo_25 : decode cX12_undo 25 = .ok (.getfield 21, 3) := by decide +kernel
theorem dX12_undo_28 : decode cX12_undo 28 = .ok (.iconst 0, 1) := by decide +kernel
theorem dX12_undo_29 : decode cX12_undo 29 = .ok (.invokevirtual 91, 3) := by decide +kernel
theorem dX12_undo_32 : decode cX12_undo 32 = .ok (.aload_n 0, 1) := by decide +kernel
theorem dX12_undo_33 : decode cX12_undo 33 = .ok (.dup, 1) := by decide +kernel
theorem dX12_undo_34 : decode cX12_undo 34 = .ok (.getfield 21, 3) := by decide +kernel
theorem dX12_undo_37 : decode cX12_undo 37 = .ok (.iconst 1, 1) := by decide +kernel
theorem dX12_undo_38 : decode cX12_undo 38 = .ok (.isub, 1) := by decide +kernel
theorem dX12_undo_39 : decode cX12_undo 39 = .ok (.putfield 21, 3) := by decide +kernel
theorem dX12_undo_42 : decode cX12_undo 42 = .ok (.aload_n 0, 1) := by decide +kernel
theorem dX12_undo_43 : decode cX12_undo 43 = .ok (.getfield 21, 3) := by decide +kernel
theorem dX12_undo_46 : decode cX12_undo 46 = .ok (.ireturn, 1) := by decide +kernel
set_option maxRecDepth 20000 in
theorem ggX12_save_X12_in : GoodIn wsX12_save wsX12_in := goodIn_r _ [6] rfl (by decide +kernel)
set_option maxRecDepth 20000 in
theorem gX12_save_X12_in : GoodIn wsX12_save (va_wsS RX12 87 yX12_in wsX12_in) := goodIn_app (goodIn_of _ (by decide +kernel)) ggX12_save_X12_in
set_option maxRecDepth 20000 in
theorem ggX12_save_X12_fails : GoodIn wsX12_save wsX12_fails := goodIn_r _ [10, 11, 16, 17, 18, 19, 20, 21, 22, 23, 24, 25, 26, 27, 28, 29, 30, 31, 32, 33, 34] rfl (by decide +kernel)
set_option maxRecDepth 20000 in
theorem gX12_save_X12_fails : GoodIn wsX12_save (wsV RX12 167 RX12 yX12_fails wsX12_fails) := goodIn_app (goodIn_of _ (by decide +kernel)) ggX12_save_X12_fails
set_option maxRecDepth 20000 in
theorem ggX12_save_X12_copyBlock : GoodIn wsX12_save wsX12_copyBlock := goodIn_r _ [15, 2, 16, 17, 18, 19, 20, 21, 22, 23, 24, 25, 26, 27, 28, 29, 30, 31, 32, 33, 34] rfl (by decide +kernel)
set_option maxRecDepth 20000 in
theorem gX12_save_X12_copyBlock : GoodIn wsX12_save (wsV RX12 91 RX12 yX12_copyBlock wsX12_copyBlock) := goodIn_app (goodIn_of _ (by decide +kernel)) ggX12_save_X12_copyBlock
theorem dX12_save_0 : decode cX12_save 0 = .ok (.aload_n 0, 1) := by decide +kernel
theorem dX12_save_1 : decode cX12_save 1 = .ok (.iload_n 1, 1) := by decide +kernel
theorem dX12_save_2 : decode cX12_save 2 = .ok (.iconst 0, 1) := by decide +kernel
theorem dX12_save_3 : decode cX12_save 3 = .ok (.iconst 1, 1) := by decide +kernel
theorem dX12_save_4 : decode cX12_save 4 = .ok (.invokestatic 87, 3) := by decide +kernel
theorem dX12_save_7 : decode cX12_save 7 = .ok (.ifCond .ne 7, 3) := by decide +kernel
theorem dX12_save_10 : decode cX12_save 10 = .ok (.iconst 1, 1) := by decide +kernel
theorem dX12_save_11 : decode cX12_save 11 = .ok (.goto 4, 3) := by decide +kernel
theorem dX12_save_14 : decode cX12_save 14 = .ok (.iconst 0, 1) := by decide +kernel
theorem dX12_save_15 : decode cX12_save 15 = .ok (.iconst 0, 1) := by decide +kernel
theorem dX12_save_16 : decode cX12_save 16 = .ok (.iconst 0, 1) := by decide +kernel
theorem dX12_save_17 : decode cX12_save 17 = .ok (.invokevirtual 167, 3) := by decide +kernel
theorem dX12_save_20 : decode cX12_save 20 = .ok (.ifCond .eq 5, 3) := by decide +kernel
theorem dX12_save_23 : decode cX12_save 23 = .ok (.iconst 0, 1) := by decide +kernel
theorem dX12_save_24 : decode cX12_save 24 = .ok (.ireturn, 1) := by decide +kernel
theorem dX12_save_25 : decode cX12_save 25 = .ok (.aload_n 0, 1) := by decide +kernel
theorem dX12_save_26 : decode cX12_save 26 = .ok (.iconst 0, 1) := by decide +kernel
theorem dX12_save_27 : decode cX12_save 27 = .ok (.bipush 7, 2) := by decide +kernel
theorem dX12_save_29 : decode cX12_save 29 = .ok (.iload_n 1, 1) := by decide +kernel
theorem dX12_save_30 : decode cX12_save 30 = .ok (.iadd, 1) := by decide +kernel
theorem dX12_save_31 : decode cX12_save 31 = .ok (.invokevirtual 91, 3) := by decide +kernel
theorem dX12_save_34 : decode cX12_save 34 = .ok (.aload_n 0, 1) := by decide +kernel
theorem dX12_save_35 : decode cX12_save 35 = .ok (.getfield 17, 3) := by decide +kernel
theorem dX12_save_38 : decode cX12_save 38 = .ok (.iload_n 1, 1) := by decide +kernel
theorem dX12_save_39 : decode cX12_save 39 = .ok (.iconst 1, 1) := by decide +kernel
theorem dX12_save_40 : decode cX12_save 40 = .ok (.bastore, 1) := by decide +kernel
theorem dX12_save_41 : decode cX12_save 41 = .ok (.aload_n 0, 1) := by decide +kernel
theorem dX12_save_42 : decode cX12_save 42 = .ok (.getfield 13, 3) := by decide +kernel
theorem dX12_save_45 : decode cX12_save 45 = .ok (.iconst 4, 1) := by decide +kernel
theorem dX12_save_46 : decode cX12_save 46 = .ok (.iaload, 1) := by decide +kernel
theorem dX12_save_47 : decode cX12_save 47 = .ok (.ireturn, 1) := by decide +kernel
set_option maxRecDepth 20000 in
theorem ggX12_restore_X12_in : GoodIn wsX12_restore wsX12_in := goodIn_r _ [7] rfl (by decide +kernel)
set_option maxRecDepth 20000 in
theorem gX12_restore_X12_in : GoodIn wsX12_restore (va_wsS RX12 87 yX12_in wsX12_in) := goodIn_app (goodIn_of _ (by decide +kernel)) ggX12_restore_X12_in
set_option maxRecDepth 20000 in
theorem ggX12_restore_X12_fails : GoodIn wsX12_restore wsX12_fails := goodIn_r _ [11, 12, 17, 18, 19, 20, 21, 22, 23, 24, 25, 26, 27, 28, 29, 30, 31, 32, 33, 34, 35] rfl (by decide +kernel)
set_option maxRecDepth 20000 in
theorem gX12_restore_X12_fails : GoodIn wsX12_restore (wsV RX12 167 RX12 yX12_fails wsX12_fails) := goodIn_app (goodIn_of _ (by decide +kernel)) ggX12_restore_X12_fails
set_option maxRecDepth 20000 in
theorem ggX12_restore_X12_copyBlock : GoodIn wsX12_restore wsX12_copyBlock := goodIn_r _ [16, 3, 17, 18, 19, 20, 21, 22, 23, 24, 25, 26, 27, 28, 29, 30, 31, 32, 33, 34, 35] rfl (by decide +kernel)
set_option maxRecDepth 20000 in
theorem gX12_restore_X12_copyBlock : GoodIn wsX12_restore (wsV RX12 91 RX12 yX12_copyBlock wsX12_copyBlock) := goodIn_app (goodIn_of _ (by decide +kernel)) ggX12_restore_X12_copyBlock
theorem dX12_restore_0 : decode cX12_restore 0 = .ok (.iload_n 1, 1) := by decide +kernel
theorem dX12_restore_1 : decode cX12_restore 1 = .ok (.iconst 0, 1) := by decide +kernel
theorem dX12_restore_2 : decode cX12_restore 2 = .ok (.iconst 1, 1) := by decide +kernel
theorem dX12_restore_3 : decode cX12_restore 3 = .ok (.invokestatic 87, 3) := by decide +kernel
theorem dX12_restore_6 : decode cX12_restore 6 = .ok (.istore_n 2, 1) := by decide +kernel
theorem dX12_restore_7 : decode cX12_restore 7 = .ok (.aload_n 0, 1) := by decide +kernel
theorem dX12_restore_8 : decode cX12_restore 8 = .ok (.iload_n 2, 1) := by decide +kernel
theorem dX12_restore_9 : decode cX12_restore 9 = .ok (.ifCond .ne 7, 3) := by decide +kernel
theorem dX12_restore_12 : decode cX12_restore 12 = .ok (.iconst 1, 1) := by decide +kernel
theorem dX12_restore_13 : decode cX12_restore 13 = .ok (.goto 4, 3) := by decide +kernel
theorem dX12_restore_16 : decode cX12_restore 16 = .ok (.iconst 0, 1) := by decide +kernel
theorem dX12_restore_17 : decode cX12_restore 17 = .ok (.iload_n 2, 1) := by decide +kernel
theorem dX12_restore_18 : decode cX12_restore 18 = .ok (.ifCond .eq 16, 3) := by decide +kernel
theorem dX12_restore_21 : decode cX12_restore 21 = .ok (.aload_n 0, 1) := by decide +kernel
theorem dX12_restore_22 : decode cX12_restore 22 = .ok (.getfield 17, 3) := by decide +kernel
theorem dX12_restore_25 : decode cX12_restore 25 = .ok (.iload_n 1, 1) := by decide +kernel
theorem dX12_restore_26 : decode cX12_restore 26 = .ok (.baload, 1) := by decide +kernel
theorem dX12_restore_27 : decode cX12_restore 27 = .ok (.ifCond .ne 7, 3) := by decide +kernel
theorem dX12_restore_30 : decode cX12_restore 30 = .ok (.iconst 1, 1) := by decide +kernel
theorem dX12_restore_31 : decode cX12_restore 31 = .ok (.goto 4, 3) := by decide +kernel
theorem dX12_restore_34 : decode cX12_restore 34 = .ok (.iconst 0, 1) := by decide +kernel
theorem dX12_restore_35 : decode cX12_restore 35 = .ok (.iconst 0, 1) := by decide +kernel
theorem dX12_restore_36 : decode cX12_restore 36 = .ok (.invokevirtual 167, 3) := by decide +kernel
theorem dX12_restore_39 : decode cX12_restore 39 = .ok (.ifCond .eq 5, 3) := by decide +kernel
theorem dX12_restore_42 : decode cX12_restore 42 = .ok (.iconst 0, 1) := by decide +kernel
theorem dX12_restore_43 : decode cX12_restore 43 = .ok (.ireturn, 1) := by decide +kernel
theorem dX12_restore_44 : decode cX12_restore 44 = .ok (.aload_n 0, 1) := by decide +kernel
theorem dX12_restore_45 : decode cX12_restore 45 = .ok (.bipush 7, 2) := by decide +kernel
theorem dX12_restore_47 : decode cX12_restore 47 = .ok (.iload_n 1, 1) := by decide +kernel
theorem dX12_restore_48 : decode cX12_restore 48 = .ok (.iadd, 1) := by decide +kernel
theorem dX12_restore_49 : decode cX12_restore 49 = .ok (.iconst 0, 1) := by decide +kernel
theorem dX12_restore_50 : decode cX12_restore 50 = .ok (.invokevirtual 91, 3) := by decide +kernel
theorem dX12_restore_53 : decode cX12_restore 53 = .ok (.aload_n 0, 1) := by decide +kernel
theorem dX12_restore_54 : decode cX12_restore 54 = .ok (.iconst 0, 1) := by decide +kernel
theorem dX12_restore_55 : decode cX12_restore 55 = .ok (.putfield 21, 3) := by decide +kernel
theorem dX12_restore_58 : decode cX12_restore 58 = .ok (.aload_n 0, 1) := by decide +kernel
theorem dX12_restore_59 : decode cX12_restore 59 = .ok (.getfield 13, 3) := by decide +kernel
theorem dX12_restore_62 : decode cX12_restore 62 = .ok (.iconst 4, 1) := by decide +kernel
theorem dX12_restore_63 : decode cX12_restore 63 = .ok (.iaload, 1) := by decide +kernel
theorem dX12_restore_64 : decode cX12_restore 64 = .ok (.ireturn, 1) := by decide +kernel
theorem dX12_put_0 : decode cX12_put 0 = .ok (.aload_n 0, 1) := by decide +kernel
theorem dX12_put_1 : decode cX12_put 1 = .ok (.getfield 36, 3) := by decide +kernel
theorem dX12_put_4 : decode cX12_put 4 = .ok (.aload_n 0, 1) := by decide +kernel
theorem dX12_put_5 : decode cX12_put 5 = .ok (.getfield 39, 3) := by decide +kernel
theorem dX12_put_8 : decode cX12_put 8 = .ok (.iload_n 1, 1) := by decide +kernel
theorem dX12_put_9 : decode cX12_put 9 = .ok (.iastore, 1) := by decide +kernel
theorem dX12_put_10 : decode cX12_put 10 = .ok (.aload_n 0, 1) := by decide +kernel
theorem dX12_put_11 : decode cX12_put 11 = .ok (.dup, 1) := by decide +kernel
theorem dX12_put_12 : decode cX12_put 12 = .ok (.getfield 39, 3) := by decide +kernel
theorem dX12_put_15 : decode cX12_put 15 = .ok (.iconst 1, 1) := by decide +kernel
theorem dX12_put_16 : decode cX12_put 16 = .ok (.iadd, 1) := by decide +kernel
theorem dX12_put_17 : decode cX12_put 17 = .ok (.putfield 39, 3) := by decide +kernel
theorem dX12_put_20 : decode cX12_put 20 = .ok (.return_, 1) := by decide +kernel
set_option maxRecDepth 20000 in
theorem ggX12_putMark_X12_of : GoodIn wsX12_putMark wsX12_of := goodIn_r _ [5, 6, 13, 14, 15, 16, 17, 18, 19, 20, 21, 22, 23, 24, 25, 26, 27, 28, 29, 30, 31] rfl (by decide +kernel)
set_option maxRecDepth 20000 in
theorem gX12_putMark_X12_of : GoodIn wsX12_putMark (wsV RX12 95 RX12 yX12_of wsX12_of) := goodIn_app (goodIn_of _ (by decide +kernel)) ggX12_putMark_X12_of
set_option maxRecDepth 20000 in
theorem ggX12_putMark_X12_put : GoodIn wsX12_putMark wsX12_put := goodIn_r _ [10, 11, 12, 13, 14, 15, 16, 17, 18, 19, 20, 21, 22, 23, 24, 25, 26, 27, 28, 29, 30, 31] rfl (by decide +kernel)
set_option maxRecDepth 20000 in
theorem gX12_putMark_X12_put : GoodIn wsX12_putMark (wsV RX12 331 RX12 yX12_put wsX12_put) := goodIn_app (goodIn_of _ (by decide +kernel)) ggX12_putMark_X12_put
theorem dX12_putMark_0 : decode cX12_putMark 0 = .ok (.aload_n 0, 1) := by decide +kernel
theorem dX12_putMark_1 : decode cX12_putMark 1 = .ok (.iload_n 1, 1) := by decide +kernel
theorem dX12_putMark_2 : decode cX12_putMark 2 = .ok (.bipush 17, 2) := by decide +kernel
theorem dX12_putMark_4 : decode cX12_putMark 4 = .ok (.invokevirtual 95, 3) := by decide +kernel
theorem dX12_putMark_7 : decode cX12_putMark 7 = .ok (.tableswitch 92 0 2 #[25, 34, 83], 25) := by decide +kernel
theorem dX12_putMark_32 : decode cX12_putMark 32 = .ok (.aload_n 0, 1) := by decide +kernel
theorem dX12_putMark_33 : decode cX12_putMark 33 = .ok (.bipush 46, 2) := by decide +kernel
theorem dX12_putMark_35 : decode cX12_putMark 35 = .ok (.invokevirtual 331, 3) := by decide +kernel
theorem dX12_putMark_38 : decode cX12_putMark 38 = .ok (.goto 67, 3) := by decide +kernel
theorem dX12_putMark_41 : decode cX12_putMark 41 = .ok (.aload_n 0, 1) := by decide +kernel
theorem dX12_putMark_42 : decode cX12_putMark 42 = .ok (.iload_n 1, 1) := by decide +kernel
theorem dX12_putMark_43 : decode cX12_putMark 43 = .ok (.bipush 18, 2) := by decide +kernel
theorem dX12_putMark_45 : decode cX12_putMark 45 = .ok (.invokevirtual 95, 3) := by decide +kernel
theorem dX12_putMark_48 : decode cX12_putMark 48 = .ok (.bipush 10, 2) := by decide +kernel
theorem dX12_putMark_50 : decode cX12_putMark 50 = .ok (.if_icmp .lt 20, 3) := by decide +kernel
theorem dX12_putMark_53 : decode cX12_putMark 53 = .ok (.aload_n 0, 1) := by decide +kernel
theorem dX12_putMark_54 : decode cX12_putMark 54 = .ok (.bipush 48, 2) := by decide +kernel
theorem dX12_putMark_56 : decode cX12_putMark 56 = .ok (.aload_n 0, 1) := by decide +kernel
theorem dX12_putMark_57 : decode cX12_putMark 57 = .ok (.iload_n 1, 1) := by decide +kernel
theorem dX12_putMark_58 : decode cX12_putMark 58 = .ok (.bipush 18, 2) := by decide +kernel
theorem dX12_putMark_60 : decode cX12_putMark 60 = .ok (.invokevirtual 95, 3) := by decide +kernel
theorem dX12_putMark_63 : decode cX12_putMark 63 = .ok (.bipush 10, 2) := by decide +kernel
theorem dX12_putMark_65 : decode cX12_putMark 65 = .ok (.idiv, 1) := by decide +kernel
theorem dX12_putMark_66 : decode cX12_putMark 66 = .ok (.iadd, 1) := by decide +kernel
theorem dX12_putMark_67 : decode cX12_putMark 67 = .ok (.invokevirtual 331, 3) := by decide +kernel
theorem dX12_putMark_70 : decode cX12_putMark 70 = .ok (.aload_n 0, 1) := by decide +kernel
theorem dX12_putMark_71 : decode cX12_putMark 71 = .ok (.bipush 48, 2) := by decide +kernel
theorem dX12_putMark_73 : decode cX12_putMark 73 = .ok (.aload_n 0, 1) := by decide +kernel
theorem dX12_putMark_74 : decode cX12_putMark 74 = .ok (.iload_n 1, 1) := by decide +kernel
theorem dX12_putMark_75 : decode cX12_putMark 75 = .ok (.bipush 18, 2) := by decide +kernel
theorem dX12_putMark_77 : decode cX12_putMark 77 = .ok (.invokevirtual 95, 3) := by decide +kernel
theorem dX12_putMark_80 : decode cX12_putMark 80 = .ok (.bipush 10, 2) := by decide +kernel
theorem dX12_putMark_82 : decode cX12_putMark 82 = .ok (.irem, 1) := by decide +kernel
theorem dX12_putMark_83 : decode cX12_putMark 83 = .ok (.iadd, 1) := by decide +kernel
theorem dX12_putMark_84 : decode cX12_putMark 84 = .ok (.invokevirtual 331, 3) := by decide +kernel
theorem dX12_putMark_87 : decode cX12_putMark 87 = .ok (.goto 18, 3) := by decide +kernel
theorem dX12_putMark_90 : decode cX12_putMark 90 = .ok (.aload_n 0, 1) := by decide +kernel
theorem dX12_putMark_91 : decode cX12_putMark 91 = .ok (.bipush 61, 2) := by decide +kernel
theorem dX12_putMark_93 : decode cX12_putMark 93 = .ok (.invokevirtual 331, 3) := by decide +kernel
theorem dX12_putMark_96 : decode cX12_putMark 96 = .ok (.goto 9, 3) := by decide +kernel
theorem dX12_putMark_99 : decode cX12_putMark 99 = .ok (.aload_n 0, 1) := by decide +kernel
theorem dX12_putMark_100 : decode cX12_putMark 100 = .ok (.bipush 42, 2) := by decide +kernel
theorem dX12_putMark_102 : decode cX12_putMark 102 = .ok (.invokevirtual 331, 3) := by decide +kernel
theorem dX12_putMark_105 : decode cX12_putMark 105 = .ok (.return_, 1) := by decide +kernel
set_option maxRecDepth 20000 in
theorem ggX12_writeSummary_X12_put : GoodIn wsX12_writeSummary wsX12_put := goodIn_r _ [8, 9, 2, 18, 19, 20, 21, 22, 23, 24, 25, 26, 27, 28, 29, 30, 31, 32, 33, 34, 35, 36] rfl (by decide +kernel)
set_option maxRecDepth 20000 in
theorem gX12_writeSummary_X12_put : GoodIn wsX12_writeSummary (wsV RX12 331 RX12 yX12_put wsX12_put) := goodIn_app (goodIn_of _ (by decide +kernel)) ggX12_writeSummary_X12_put
set_option maxRecDepth 20000 in
theorem ggX12_writeSummary_X12_of : GoodIn wsX12_writeSummary wsX12_of := goodIn_r _ [13, 3, 18, 19, 20, 21, 22, 23, 24, 25, 26, 27, 28, 29, 30, 31, 32, 33, 34, 35, 36] rfl (by decide +kernel)
set_option maxRecDepth 20000 in
theorem gX12_writeSummary_X12_of : GoodIn wsX12_writeSummary (wsV RX12 95 RX12 yX12_of wsX12_of) := goodIn_app (goodIn_of _ (by decide +kernel)) ggX12_writeSummary_X12_of
set_option maxRecDepth 20000 in
theorem ggX12_writeSummary_X12_putMark : GoodIn wsX12_writeSummary wsX12_putMark := goodIn_r _ [17, 10, 11, 12, 7, 13, 3, 4, 5, 6, 8, 9, 2, 18, 19, 20, 21, 22, 23, 24, 25, 26, 27, 28, 29, 30, 31, 32, 33, 34, 35, 36] rfl (by decide +kernel)
set_option maxRecDepth 20000 in
theorem gX12_writeSummary_X12_putMark : GoodIn wsX12_writeSummary (wsV RX12 334 RX12 yX12_putMark wsX12_putMark) := goodIn_app (goodIn_of _ (by decide +kernel)) ggX12_writeSummary_X12_putMark
theorem dX12_writeSummary_0 : decode cX12_writeSummary 0 = .ok (.aload_n 0, 1) := by decide +kernel
theorem dX12_writeSummary_1 : decode cX12_writeSummary 1 = .ok (.iconst 0, 1) := by decide +kernel
theorem dX12_writeSummary_2 : decode cX12_writeSummary 2 = .ok (.putfield 1, 3) := by decide +kernel
theorem dX12_writeSummary_5 : decode cX12_writeSummary 5 = .ok (.aload_n 0, 1) := by decide +kernel
theorem dX12_writeSummary_6 : decode cX12_writeSummary 6 = .ok (.iconst 0, 1) := by decide +kernel
theorem dX12_writeSummary_7 : decode cX12_writeSummary 7 = .ok (.putfield 39, 3) := by decide +kernel
theorem dX12_writeSummary_10 : decode cX12_writeSummary 10 = .ok (.iconst 0, 1) := by decide +kernel
theorem dX12_writeSummary_11 : decode cX12_writeSummary 11 = .ok (.istore_n 1, 1) := by decide +kernel
theorem dX12_writeSummary_12 : decode cX12_writeSummary 12 = .ok (.iload_n 1, 1) := by decide +kernel
theorem dX12_writeSummary_13 : decode cX12_writeSummary 13 = .ok (.aload_n 0, 1) := by decide +kernel
theorem dX12_writeSummary_14 : decode cX12_writeSummary 14 = .ok (.getfield 13, 3) := by decide +kernel
theorem dX12_writeSummary_17 : decode cX12_writeSummary 17 = .ok (.bipush 13, 2) := by decide +kernel
theorem dX12_writeSummary_19 : decode cX12_writeSummary 19 = .ok (.iaload, 1) := by decide +kernel
theorem dX12_writeSummary_20 : decode cX12_writeSummary 20 = .ok (.if_icmp .ge 54, 3) := by decide +kernel
theorem dX12_writeSummary_23 : decode cX12_writeSummary 23 = .ok (.iload_n 1, 1) := by decide +kernel
theorem dX12_writeSummary_24 : decode cX12_writeSummary 24 = .ok (.ifCond .le 9, 3) := by decide +kernel
theorem dX12_writeSummary_27 : decode cX12_writeSummary 27 = .ok (.aload_n 0, 1) := by decide +kernel
theorem dX12_writeSummary_28 : decode cX12_writeSummary 28 = .ok (.bipush 32, 2) := by decide +kernel
theorem dX12_writeSummary_30 : decode cX12_writeSummary 30 = .ok (.invokevirtual 331, 3) := by decide +kernel
theorem dX12_writeSummary_33 : decode cX12_writeSummary 33 = .ok (.iconst 0, 1) := by decide +kernel
theorem dX12_writeSummary_34 : decode cX12_writeSummary 34 = .ok (.istore_n 2, 1) := by decide +kernel
theorem dX12_writeSummary_35 : decode cX12_writeSummary 35 = .ok (.iload_n 2, 1) := by decide +kernel
theorem dX12_writeSummary_36 : decode cX12_writeSummary 36 = .ok (.aload_n 0, 1) := by decide +kernel
theorem dX12_writeSummary_37 : decode cX12_writeSummary 37 = .ok (.iload_n 1, 1) := by decide +kernel
theorem dX12_writeSummary_38 : decode cX12_writeSummary 38 = .ok (.iconst 0, 1) := by decide +kernel
theorem dX12_writeSummary_39 : decode cX12_writeSummary 39 = .ok (.invokevirtual 95, 3) := by decide +kernel
theorem dX12_writeSummary_42 : decode cX12_writeSummary 42 = .ok (.if_icmp .ge 21, 3) := by decide +kernel
theorem dX12_writeSummary_45 : decode cX12_writeSummary 45 = .ok (.aload_n 0, 1) := by decide +kernel
theorem dX12_writeSummary_46 : decode cX12_writeSummary 46 = .ok (.aload_n 0, 1) := by decide +kernel
theorem dX12_writeSummary_47 : decode cX12_writeSummary 47 = .ok (.iload_n 1, 1) := by decide +kernel
theorem dX12_writeSummary_48 : decode cX12_writeSummary 48 = .ok (.iconst 1, 1) := by decide +kernel
theorem dX12_writeSummary_49 : decode cX12_writeSummary 49 = .ok (.iload_n 2, 1) := by decide +kernel
theorem dX12_writeSummary_50 : decode cX12_writeSummary 50 = .ok (.iadd, 1) := by decide +kernel
theorem dX12_writeSummary_51 : decode cX12_writeSummary 51 = .ok (.invokevirtual 95, 3) := by decide +kernel
theorem dX12_writeSummary_54 : decode cX12_writeSummary 54 = .ok (.invokevirtual 331, 3) := by decide +kernel
theorem dX12_writeSummary_57 : decode cX12_writeSummary 57 = .ok (.iinc 2 1, 3) := by decide +kernel
theorem dX12_writeSummary_60 : decode cX12_writeSummary 60 = .ok (.goto (-25), 3) := by decide +kernel
theorem dX12_writeSummary_63 : decode cX12_writeSummary 63 = .ok (.aload_n 0, 1) := by decide +kernel
theorem dX12_writeSummary_64 : decode cX12_writeSummary 64 = .ok (.iload_n 1, 1) := by decide +kernel
theorem dX12_writeSummary_65 : decode cX12_writeSummary 65 = .ok (.invokevirtual 334, 3) := by decide +kernel
theorem dX12_writeSummary_68 : decode cX12_writeSummary 68 = .ok (.iinc 1 1, 3) := by decide +kernel
theorem dX12_writeSummary_71 : decode cX12_writeSummary 71 = .ok (.goto (-59), 3) := by decide +kernel
theorem dX12_writeSummary_74 : decode cX12_writeSummary 74 = .ok (.aload_n 0, 1) := by decide +kernel
theorem dX12_writeSummary_75 : decode cX12_writeSummary 75 = .ok (.getfield 39, 3) := by decide +kernel
theorem dX12_writeSummary_78 : decode cX12_writeSummary 78 = .ok (.ireturn, 1) := by decide +kernel
set_option maxRecDepth 20000 in
theorem ggX12_outputByte_X12_in : GoodIn wsX12_outputByte wsX12_in := goodIn_r _ [6] rfl (by decide +kernel)
set_option maxRecDepth 20000 in
theorem gX12_outputByte_X12_in : GoodIn wsX12_outputByte (va_wsS RX12 87 yX12_in wsX12_in) := goodIn_app (goodIn_of _ (by decide +kernel)) ggX12_outputByte_X12_in
set_option maxRecDepth 20000 in
theorem ggX12_outputByte_X12_fails : GoodIn wsX12_outputByte wsX12_fails := goodIn_r _ [10, 11, 12, 13, 14, 15, 16, 17, 18, 19, 20, 21, 22, 23, 24, 25, 26, 27, 28, 29, 30] rfl (by decide +kernel)
set_option maxRecDepth 20000 in
theorem gX12_outputByte_X12_fails : GoodIn wsX12_outputByte (wsV RX12 167 RX12 yX12_fails wsX12_fails) := goodIn_app (goodIn_of _ (by decide +kernel)) ggX12_outputByte_X12_fails
theorem dX12_outputByte_0 : decode cX12_outputByte 0 = .ok (.aload_n 0, 1) := by decide +kernel
theorem dX12_outputByte_1 : decode cX12_outputByte 1 = .ok (.iload_n 1, 1) := by decide +kernel
theorem dX12_outputByte_2 : decode cX12_outputByte 2 = .ok (.iconst 0, 1) := by decide +kernel
theorem dX12_outputByte_3 : decode cX12_outputByte 3 = .ok (.aload_n 0, 1) := by decide +kernel
theorem dX12_outputByte_4 : decode cX12_outputByte 4 = .ok (.getfield 39, 3) := by decide +kernel
theorem dX12_outputByte_7 : decode cX12_outputByte 7 = .ok (.iconst 1, 1) := by decide +kernel
theorem dX12_outputByte_8 : decode cX12_outputByte 8 = .ok (.isub, 1) := by decide +kernel
theorem dX12_outputByte_9 : decode cX12_outputByte 9 = .ok (.invokestatic 87, 3) := by decide +kernel
theorem dX12_outputByte_12 : decode cX12_outputByte 12 = .ok (.ifCond .ne 7, 3) := by decide +kernel
theorem dX12_outputByte_15 : decode cX12_outputByte 15 = .ok (.iconst 1, 1) := by decide +kernel
theorem dX12_outputByte_16 : decode cX12_outputByte 16 = .ok (.goto 4, 3) := by decide +kernel
theorem dX12_outputByte_19 : decode cX12_outputByte 19 = .ok (.iconst 0, 1) := by decide +kernel
theorem dX12_outputByte_20 : decode cX12_outputByte 20 = .ok (.iconst 0, 1) := by decide +kernel
theorem dX12_outputByte_21 : decode cX12_outputByte 21 = .ok (.iconst 0, 1) := by decide +kernel
theorem dX12_outputByte_22 : decode cX12_outputByte 22 = .ok (.invokevirtual 167, 3) := by decide +kernel
theorem dX12_outputByte_25 : decode cX12_outputByte 25 = .ok (.ifCond .eq 5, 3) := by decide +kernel
theorem dX12_outputByte_28 : decode cX12_outputByte 28 = .ok (.iconst 0, 1) := by decide +kernel
theorem dX12_outputByte_29 : decode cX12_outputByte 29 = .ok (.ireturn, 1) := by decide +kernel
theorem dX12_outputByte_30 : decode cX12_outputByte 30 = .ok (.aload_n 0, 1) := by decide +kernel
theorem dX12_outputByte_31 : decode cX12_outputByte 31 = .ok (.getfield 36, 3) := by decide +kernel
theorem dX12_outputByte_34 : decode cX12_outputByte 34 = .ok (.iload_n 1, 1) := by decide +kernel
theorem dX12_outputByte_35 : decode cX12_outputByte 35 = .ok (.iaload, 1) := by decide +kernel
theorem dX12_outputByte_36 : decode cX12_outputByte 36 = .ok (.ireturn, 1) := by decide +kernel
theorem dJx29ce0_ordinal_8abf5_0 : decode cJx29ce0_ordinal_8abf5 0 = .ok (.aload_n 0, 1) := by decide +kernel
theorem dJx29ce0_ordinal_8abf5_1 : decode cJx29ce0_ordinal_8abf5 1 = .ok (.getfield 7, 3) := by decide +kernel
theorem dJx29ce0_ordinal_8abf5_4 : decode cJx29ce0_ordinal_8abf5 4 = .ok (.ireturn, 1) := by decide +kernel
theorem dJ6_bitCount_0f7a4_0 : decode cJ6_bitCount_0f7a4 0 = .ok (.iload_n 0, 1) := by decide +kernel
theorem dJ6_bitCount_0f7a4_1 : decode cJ6_bitCount_0f7a4 1 = .ok (.iload_n 0, 1) := by decide +kernel
theorem dJ6_bitCount_0f7a4_2 : decode cJ6_bitCount_0f7a4 2 = .ok (.iconst 1, 1) := by decide +kernel
theorem dJ6_bitCount_0f7a4_3 : decode cJ6_bitCount_0f7a4 3 = .ok (.iushr, 1) := by decide +kernel
theorem dJ6_bitCount_0f7a4_4 : decode cJ6_bitCount_0f7a4 4 = .ok (.ldc_w 265, 3) := by decide +kernel
theorem dJ6_bitCount_0f7a4_7 : decode cJ6_bitCount_0f7a4 7 = .ok (.iand, 1) := by decide +kernel
theorem dJ6_bitCount_0f7a4_8 : decode cJ6_bitCount_0f7a4 8 = .ok (.isub, 1) := by decide +kernel
theorem dJ6_bitCount_0f7a4_9 : decode cJ6_bitCount_0f7a4 9 = .ok (.istore_n 0, 1) := by decide +kernel
theorem dJ6_bitCount_0f7a4_10 : decode cJ6_bitCount_0f7a4 10 = .ok (.iload_n 0, 1) := by decide +kernel
theorem dJ6_bitCount_0f7a4_11 : decode cJ6_bitCount_0f7a4 11 = .ok (.ldc_w 266, 3) := by decide +kernel
theorem dJ6_bitCount_0f7a4_14 : decode cJ6_bitCount_0f7a4 14 = .ok (.iand, 1) := by decide +kernel
theorem dJ6_bitCount_0f7a4_15 : decode cJ6_bitCount_0f7a4 15 = .ok (.iload_n 0, 1) := by decide +kernel
theorem dJ6_bitCount_0f7a4_16 : decode cJ6_bitCount_0f7a4 16 = .ok (.iconst 2, 1) := by decide +kernel
theorem dJ6_bitCount_0f7a4_17 : decode cJ6_bitCount_0f7a4 17 = .ok (.iushr, 1) := by decide +kernel
theorem dJ6_bitCount_0f7a4_18 : decode cJ6_bitCount_0f7a4 18 = .ok (.ldc_w 266, 3) := by decide +kernel
theorem dJ6_bitCount_0f7a4_21 : decode cJ6_bitCount_0f7a4 21 = .ok (.iand, 1) := by decide +kernel
theorem dJ6_bitCount_0f7a4_22 : decode cJ6_bitCount_0f7a4 22 = .ok (.iadd, 1) := by decide +kernel
theorem dJ6_bitCount_0f7a4_23 : decode cJ6_bitCount_0f7a4 23 = .ok (.istore_n 0, 1) := by decide +kernel
theorem dJ6_bitCount_0f7a4_24 : decode cJ6_bitCount_0f7a4 24 = .ok (.iload_n 0, 1) := by decide +kernel
theorem dJ6_bitCount_0f7a4_25 : decode cJ6_bitCount_0f7a4 25 = .ok (.iload_n 0, 1) := by decide +kernel
theorem dJ6_bitCount_0f7a4_26 : decode cJ6_bitCount_0f7a4 26 = .ok (.iconst 4, 1) := by decide +kernel
theorem dJ6_bitCount_0f7a4_27 : decode cJ6_bitCount_0f7a4 27 = .ok (.iushr, 1) := by decide +kernel
theorem dJ6_bitCount_0f7a4_28 : decode cJ6_bitCount_0f7a4 28 = .ok (.iadd, 1) := by decide +kernel
theorem dJ6_bitCount_0f7a4_29 : decode cJ6_bitCount_0f7a4 29 = .ok (.ldc_w 267, 3) := by decide +kernel
theorem dJ6_bitCount_0f7a4_32 : decode cJ6_bitCount_0f7a4 32 = .ok (.iand, 1) := by decide +kernel
theorem dJ6_bitCount_0f7a4_33 : decode cJ6_bitCount_0f7a4 33 = .ok (.istore_n 0, 1) := by decide +kernel
theorem dJ6_bitCount_0f7a4_34 : decode cJ6_bitCount_0f7a4 34 = .ok (.iload_n 0, 1) := by decide +kernel
theorem dJ6_bitCount_0f7a4_35 : decode cJ6_bitCount_0f7a4 35 = .ok (.iload_n 0, 1) := by decide +kernel
theorem dJ6_bitCount_0f7a4_36 : decode cJ6_bitCount_0f7a4 36 = .ok (.bipush 8, 2) := by decide +kernel
theorem dJ6_bitCount_0f7a4_38 : decode cJ6_bitCount_0f7a4 38 = .ok (.iushr, 1) := by decide +kernel
theorem dJ6_bitCount_0f7a4_39 : decode cJ6_bitCount_0f7a4 39 = .ok (.iadd, 1) := by decide +kernel
theorem dJ6_bitCount_0f7a4_40 : decode cJ6_bitCount_0f7a4 40 = .ok (.istore_n 0, 1) := by decide +kernel
theorem dJ6_bitCount_0f7a4_41 : decode cJ6_bitCount_0f7a4 41 = .ok (.iload_n 0, 1) := by decide +kernel
theorem dJ6_bitCount_0f7a4_42 : decode cJ6_bitCount_0f7a4 42 = .ok (.iload_n 0, 1) := by decide +kernel
theorem dJ6_bitCount_0f7a4_43 : decode cJ6_bitCount_0f7a4 43 = .ok (.bipush 16, 2) := by decide +kernel
theorem dJ6_bitCount_0f7a4_45 : decode cJ6_bitCount_0f7a4 45 = .ok (.iushr, 1) := by decide +kernel
theorem dJ6_bitCount_0f7a4_46 : decode cJ6_bitCount_0f7a4 46 = .ok (.iadd, 1) := by decide +kernel
theorem dJ6_bitCount_0f7a4_47 : decode cJ6_bitCount_0f7a4 47 = .ok (.istore_n 0, 1) := by decide +kernel
theorem dJ6_bitCount_0f7a4_48 : decode cJ6_bitCount_0f7a4 48 = .ok (.iload_n 0, 1) := by decide +kernel
theorem dJ6_bitCount_0f7a4_49 : decode cJ6_bitCount_0f7a4 49 = .ok (.bipush 63, 2) := by decide +kernel
theorem dJ6_bitCount_0f7a4_51 : decode cJ6_bitCount_0f7a4 51 = .ok (.iand, 1) := by decide +kernel
theorem dJ6_bitCount_0f7a4_52 : decode cJ6_bitCount_0f7a4 52 = .ok (.ireturn, 1) := by decide +kernel
theorem dJ9_max_7cf53_0 : decode cJ9_max_7cf53 0 = .ok (.iload_n 0, 1) := by decide +kernel
theorem dJ9_max_7cf53_1 : decode cJ9_max_7cf53 1 = .ok (.iload_n 1, 1) := by decide +kernel
theorem dJ9_max_7cf53_2 : decode cJ9_max_7cf53 2 = .ok (.if_icmp .lt 7, 3) := by decide +kernel
theorem dJ9_max_7cf53_5 : decode cJ9_max_7cf53 5 = .ok (.iload_n 0, 1) := by decide +kernel
theorem dJ9_max_7cf53_6 : decode cJ9_max_7cf53 6 = .ok (.goto 4, 3) := by decide +kernel
theorem dJ9_max_7cf53_9 : decode cJ9_max_7cf53 9 = .ok (.iload_n 1, 1) := by decide +kernel
theorem dJ9_max_7cf53_10 : decode cJ9_max_7cf53 10 = .ok (.ireturn, 1) := by decide +kernel
theorem dJ9_min_7cf53_0 : decode cJ9_min_7cf53 0 = .ok (.iload_n 0, 1) := by decide +kernel
theorem dJ9_min_7cf53_1 : decode cJ9_min_7cf53 1 = .ok (.iload_n 1, 1) := by decide +kernel
theorem dJ9_min_7cf53_2 : decode cJ9_min_7cf53 2 = .ok (.if_icmp .gt 7, 3) := by decide +kernel
theorem dJ9_min_7cf53_5 : decode cJ9_min_7cf53 5 = .ok (.iload_n 0, 1) := by decide +kernel
theorem dJ9_min_7cf53_6 : decode cJ9_min_7cf53 6 = .ok (.goto 4, 3) := by decide +kernel
theorem dJ9_min_7cf53_9 : decode cJ9_min_7cf53 9 = .ok (.iload_n 1, 1) := by decide +kernel
theorem dJ9_min_7cf53_10 : decode cJ9_min_7cf53 10 = .ok (.ireturn, 1) := by decide +kernel
set_option maxRecDepth 20000 in
theorem ggJ0_length_8abf5_J0_coder_7d493 : GoodIn wsJ0_length_8abf5 wsJ0_coder_7d493 := goodIn_r _ [6, 7, 8] rfl (by decide +kernel)
set_option maxRecDepth 20000 in
theorem gJ0_length_8abf5_J0_coder_7d493 : GoodIn wsJ0_length_8abf5 (wsV RJ0 335 RJ0 yJ0_coder_7d493 wsJ0_coder_7d493) := goodIn_app (goodIn_of _ (by decide +kernel)) ggJ0_length_8abf5_J0_coder_7d493
theorem dJ0_length_8abf5_0 : decode cJ0_length_8abf5 0 = .ok (.aload_n 0, 1) := by decide +kernel
theorem dJ0_length_8abf5_1 : decode cJ0_length_8abf5 1 = .ok (.getfield 9, 3) := by decide +kernel
theorem dJ0_length_8abf5_4 : decode cJ0_length_8abf5 4 = .ok (.arraylength, 1) := by decide +kernel
theorem dJ0_length_8abf5_5 : decode cJ0_length_8abf5 5 = .ok (.aload_n 0, 1) := by decide +kernel
theorem dJ0_length_8abf5_6 : decode cJ0_length_8abf5 6 = .ok (.invokevirtual 335, 3) := by decide +kernel
theorem dJ0_length_8abf5_9 : decode cJ0_length_8abf5 9 = .ok (.ishr, 1) := by decide +kernel
theorem dJ0_length_8abf5_10 : decode cJ0_length_8abf5 10 = .ok (.ireturn, 1) := by decide +kernel
set_option maxRecDepth 20000 in
theorem ggJ0_charAt_5068e_J0_isLatin1_aae02 : GoodIn wsJ0_charAt_5068e wsJ0_isLatin1_aae02 := goodIn_r _ [6, 7, 8] rfl (by decide +kernel)
set_option maxRecDepth 20000 in
theorem gJ0_charAt_5068e_J0_isLatin1_aae02 : GoodIn wsJ0_charAt_5068e (wsV RJ0 492 RJ0 yJ0_isLatin1_aae02 wsJ0_isLatin1_aae02) := goodIn_app (goodIn_of _ (by decide +kernel)) ggJ0_charAt_5068e_J0_isLatin1_aae02
set_option maxRecDepth 20000 in
theorem ggJ0_charAt_5068e_J1_charAt_3b067 : GoodIn wsJ0_charAt_5068e wsJ1_charAt_3b067 := goodIn_r _ [12, 13, 14, 5, 15, 16, 17, 18, 19, 20] rfl (by decide +kernel)
set_option maxRecDepth 20000 in
theorem gJ0_charAt_5068e_J1_charAt_3b067 : GoodIn wsJ0_charAt_5068e (va_wsS RJ0 495 yJ1_charAt_3b067 wsJ1_charAt_3b067) := goodIn_app (goodIn_of _ (by decide +kernel)) ggJ0_charAt_5068e_J1_charAt_3b067
set_option maxRecDepth 20000 in
theorem ggJ0_charAt_5068e_J2_charAt_3b067 : GoodIn wsJ0_charAt_5068e wsJ2_charAt_3b067 := goodIn_r _ [24, 25, 26, 23, 27, 28, 29, 30, 31, 14, 5, 15, 16, 17, 18, 19, 20, 32, 33, 34, 35, 36, 37] rfl (by decide +kernel)
set_option maxRecDepth 20000 in
theorem gJ0_charAt_5068e_J2_charAt_3b067 : GoodIn wsJ0_charAt_5068e (va_wsS RJ0 498 yJ2_charAt_3b067 wsJ2_charAt_3b067) := goodIn_app (goodIn_of _ (by decide +kernel)) ggJ0_charAt_5068e_J2_charAt_3b067
theorem dJ0_charAt_5068e_0 : decode cJ0_charAt_5068e 0 = .ok (.aload_n 0, 1) := by decide +kernel
theorem dJ0_charAt_5068e_1 : decode cJ0_charAt_5068e 1 = .ok (.invokevirtual 492, 3) := by decide +kernel
theorem dJ0_charAt_5068e_4 : decode cJ0_charAt_5068e 4 = .ok (.ifCond .eq 12, 3) := by decide +kernel
theorem dJ0_charAt_5068e_7 : decode cJ0_charAt_5068e 7 = .ok (.aload_n 0, 1) := by decide +kernel
theorem dJ0_charAt_5068e_8 : decode cJ0_charAt_5068e 8 = .ok (.getfield 9, 3) := by decide +kernel
theorem dJ0_charAt_5068e_11 : decode cJ0_charAt_5068e 11 = .ok (.iload_n 1, 1) := by decide +kernel
theorem dJ0_charAt_5068e_12 : decode cJ0_charAt_5068e 12 = .ok (.invokestatic 495, 3) := by decide +kernel
theorem dJ0_charAt_5068e_15 : decode cJ0_charAt_5068e 15 = .ok (.ireturn, 1) := by decide +kernel
theorem dJ0_charAt_5068e_16 : decode cJ0_charAt_5068e 16 = .ok (.aload_n 0, 1) := by decide +kernel
theorem dJ0_charAt_5068e_17 : decode cJ0_charAt_5068e 17 = .ok (.getfield 9, 3) := by decide +kernel
theorem dJ0_charAt_5068e_20 : decode cJ0_charAt_5068e 20 = .ok (.iload_n 1, 1) := by decide +kernel
theorem dJ0_charAt_5068e_21 : decode cJ0_charAt_5068e 21 = .ok (.invokestatic 498, 3) := by decide +kernel
theorem dJ0_charAt_5068e_24 : decode cJ0_charAt_5068e 24 = .ok (.ireturn, 1) := by decide +kernel
theorem dJ0_coder_7d493_0 : decode cJ0_coder_7d493 0 = .ok (.getstatic 38, 3) := by decide +kernel
theorem dJ0_coder_7d493_3 : decode cJ0_coder_7d493 3 = .ok (.ifCond .eq 10, 3) := by decide +kernel
theorem dJ0_coder_7d493_6 : decode cJ0_coder_7d493 6 = .ok (.aload_n 0, 1) := by decide +kernel
theorem dJ0_coder_7d493_7 : decode cJ0_coder_7d493 7 = .ok (.getfield 15, 3) := by decide +kernel
theorem dJ0_coder_7d493_10 : decode cJ0_coder_7d493 10 = .ok (.goto 4, 3) := by decide +kernel
theorem dJ0_coder_7d493_13 : decode cJ0_coder_7d493 13 = .ok (.iconst 1, 1) := by decide +kernel
theorem dJ0_coder_7d493_14 : decode cJ0_coder_7d493 14 = .ok (.ireturn, 1) := by decide +kernel
theorem dJ0_isLatin1_aae02_0 : decode cJ0_isLatin1_aae02 0 = .ok (.getstatic 38, 3) := by decide +kernel
theorem dJ0_isLatin1_aae02_3 : decode cJ0_isLatin1_aae02 3 = .ok (.ifCond .eq 14, 3) := by decide +kernel
theorem dJ0_isLatin1_aae02_6 : decode cJ0_isLatin1_aae02 6 = .ok (.aload_n 0, 1) := by decide +kernel
theorem dJ0_isLatin1_aae02_7 : decode cJ0_isLatin1_aae02 7 = .ok (.getfield 15, 3) := by decide +kernel
theorem dJ0_isLatin1_aae02_10 : decode cJ0_isLatin1_aae02 10 = .ok (.ifCond .ne 7, 3) := by decide +kernel
theorem dJ0_isLatin1_aae02_13 : decode cJ0_isLatin1_aae02 13 = .ok (.iconst 1, 1) := by decide +kernel
theorem dJ0_isLatin1_aae02_14 : decode cJ0_isLatin1_aae02 14 = .ok (.goto 4, 3) := by decide +kernel
theorem dJ0_isLatin1_aae02_17 : decode cJ0_isLatin1_aae02 17 = .ok (.iconst 0, 1) := by decide +kernel
theorem dJ0_isLatin1_aae02_18 : decode cJ0_isLatin1_aae02 18 = .ok (.ireturn, 1) := by decide +kernel
set_option maxRecDepth 20000 in
theorem ggJ0_checkIndex_df160_J3_checkIndex_8e157 : GoodIn wsJ0_checkIndex_df160 wsJ3_checkIndex_8e157 := goodIn_r _ [5] rfl (by decide +kernel)
set_option maxRecDepth 20000 in
theorem gJ0_checkIndex_df160_J3_checkIndex_8e157 : GoodIn wsJ0_checkIndex_df160 (va_wsS RJ0 1059 yJ3_checkIndex_8e157 wsJ3_checkIndex_8e157) := goodIn_app (goodIn_of _ (by decide +kernel)) ggJ0_checkIndex_df160_J3_checkIndex_8e157
theorem dJ0_checkIndex_df160_0 : decode cJ0_checkIndex_df160 0 = .ok (.iload_n 0, 1) := by decide +kernel
theorem dJ0_checkIndex_df160_1 : decode cJ0_checkIndex_df160 1 = .ok (.iload_n 1, 1) := by decide +kernel
theorem dJ0_checkIndex_df160_2 : decode cJ0_checkIndex_df160 2 = .ok (.getstatic 1053, 3) := by decide +kernel
theorem dJ0_checkIndex_df160_5 : decode cJ0_checkIndex_df160 5 = .ok (.invokestatic 1059, 3) := by decide +kernel
theorem dJ0_checkIndex_df160_8 : decode cJ0_checkIndex_df160 8 = .ok (.pop, 1) := by decide +kernel
theorem dJ0_checkIndex_df160_9 : decode cJ0_checkIndex_df160 9 = .ok (.return_, 1) := by decide +kernel
set_option maxRecDepth 20000 in
theorem ggJ1_charAt_3b067_J0_checkIndex_df160 : GoodIn wsJ1_charAt_3b067 wsJ0_checkIndex_df160 := goodIn_r _ [4, 5, 6, 7, 8, 9] rfl (by decide +kernel)
set_option maxRecDepth 20000 in
theorem gJ1_charAt_3b067_J0_checkIndex_df160 : GoodIn wsJ1_charAt_3b067 (va_wsS RJ1 9 yJ0_checkIndex_df160 wsJ0_checkIndex_df160) := goodIn_app (goodIn_of _ (by decide +kernel)) ggJ1_charAt_3b067_J0_checkIndex_df160
theorem dJ1_charAt_3b067_0 : decode cJ1_charAt_3b067 0 = .ok (.iload_n 1, 1) := by decide +kernel
theorem dJ1_charAt_3b067_1 : decode cJ1_charAt_3b067 1 = .ok (.aload_n 0, 1) := by decide +kernel
theorem dJ1_charAt_3b067_2 : decode cJ1_charAt_3b067 2 = .ok (.arraylength, 1) := by decide +kernel
theorem dJ1_charAt_3b067_3 : decode cJ1_charAt_3b067 3 = .ok (.invokestatic 9, 3) := by decide +kernel
theorem dJ1_charAt_3b067_6 : decode cJ1_charAt_3b067 6 = .ok (.aload_n 0, 1) := by decide +kernel
theorem dJ1_charAt_3b067_7 : decode cJ1_charAt_3b067 7 = .ok (.iload_n 1, 1) := by decide +kernel
theorem dJ1_charAt_3b067_8 : decode cJ1_charAt_3b067 8 = .ok (.baload, 1) := by decide +kernel
theorem dJ1_charAt_3b067_9 : decode cJ1_charAt_3b067 9 = .ok (.sipush 255, 3) := by decide +kernel
theorem dJ1_charAt_3b067_12 : decode cJ1_charAt_3b067 12 = .ok (.iand, 1) := by decide +kernel
theorem dJ1_charAt_3b067_13 : decode cJ1_charAt_3b067 13 = .ok (.i2c, 1) := by decide +kernel
theorem dJ1_charAt_3b067_14 : decode cJ1_charAt_3b067 14 = .ok (.ireturn, 1) := by decide +kernel
set_option maxRecDepth 20000 in
theorem ggJ2_getChar_3b067_J2_length_9d52b : GoodIn wsJ2_getChar_3b067 wsJ2_length_9d52b := goodIn_r _ [7] rfl (by decide +kernel)
set_option maxRecDepth 20000 in
theorem gJ2_getChar_3b067_J2_length_9d52b : GoodIn wsJ2_getChar_3b067 (va_wsS RJ2 48 yJ2_length_9d52b wsJ2_length_9d52b) := goodIn_app (goodIn_of _ (by decide +kernel)) ggJ2_getChar_3b067_J2_length_9d52b
theorem dJ2_getChar_3b067_0 : decode cJ2_getChar_3b067 0 = .ok (.getstatic 44, 3) := by decide +kernel
theorem dJ2_getChar_3b067_3 : decode cJ2_getChar_3b067 3 = .ok (.ifCond .ne 25, 3) := by decide +kernel
theorem dJ2_getChar_3b067_6 : decode cJ2_getChar_3b067 6 = .ok (.iload_n 1, 1) := by decide +kernel
theorem dJ2_getChar_3b067_7 : decode cJ2_getChar_3b067 7 = .ok (.ifCond .lt 11, 3) := by decide +kernel
theorem dJ2_getChar_3b067_10 : decode cJ2_getChar_3b067 10 = .ok (.iload_n 1, 1) := by decide +kernel
theorem dJ2_getChar_3b067_11 : decode cJ2_getChar_3b067 11 = .ok (.aload_n 0, 1) := by decide +kernel
theorem dJ2_getChar_3b067_12 : decode cJ2_getChar_3b067 12 = .ok (.invokestatic 48, 3) := by decide +kernel
theorem dJ2_getChar_3b067_15 : decode cJ2_getChar_3b067 15 = .ok (.if_icmp .lt 13, 3) := by decide +kernel
theorem dJ2_getChar_3b067_18 : decode cJ2_getChar_3b067 18 = .ok (.new 52, 3) := by decide +kernel
theorem dJ2_getChar_3b067_21 : decode cJ2_getChar_3b067 21 = .ok (.dup, 1) := by decide +kernel
theorem dJ2_getChar_3b067_22 : decode cJ2_getChar_3b067 22 = .ok (.ldc 54, 2) := by decide +kernel
theorem dJ2_getChar_3b067_24 : decode cJ2_getChar_3b067 24 = .ok (.invokespecial 56, 3) := by decide +kernel
theorem dJ2_getChar_3b067_27 : decode cJ2_getChar_3b067 27 = .ok (.athrow, 1) := by decide +kernel
theorem dJ2_getChar_3b067_28 : decode cJ2_getChar_3b067 28 = .ok (.iload_n 1, 1) := by decide +kernel
theorem dJ2_getChar_3b067_29 : decode cJ2_getChar_3b067 29 = .ok (.iconst 1, 1) := by decide +kernel
theorem dJ2_getChar_3b067_30 : decode cJ2_getChar_3b067 30 = .ok (.ishl, 1) := by decide +kernel
theorem dJ2_getChar_3b067_31 : decode cJ2_getChar_3b067 31 = .ok (.istore_n 1, 1) := by decide +kernel
theorem dJ2_getChar_3b067_32 : decode cJ2_getChar_3b067 32 = .ok (.aload_n 0, 1) := by decide +kernel
theorem dJ2_getChar_3b067_33 : decode cJ2_getChar_3b067 33 = .ok (.iload_n 1, 1) := by decide +kernel
theorem dJ2_getChar_3b067_34 : decode cJ2_getChar_3b067 34 = .ok (.iinc 1 1, 3) := by decide +kernel
theorem dJ2_getChar_3b067_37 : decode cJ2_getChar_3b067 37 = .ok (.baload, 1) := by decide +kernel
theorem dJ2_getChar_3b067_38 : decode cJ2_getChar_3b067 38 = .ok (.sipush 255, 3) := by decide +kernel
theorem dJ2_getChar_3b067_41 : decode cJ2_getChar_3b067 41 = .ok (.iand, 1) := by decide +kernel
theorem dJ2_getChar_3b067_42 : decode cJ2_getChar_3b067 42 = .ok (.getstatic 59, 3) := by decide +kernel
theorem dJ2_getChar_3b067_45 : decode cJ2_getChar_3b067 45 = .ok (.ishl, 1) := by decide +kernel
theorem dJ2_getChar_3b067_46 : decode cJ2_getChar_3b067 46 = .ok (.aload_n 0, 1) := by decide +kernel
theorem dJ2_getChar_3b067_47 : decode cJ2_getChar_3b067 47 = .ok (.iload_n 1, 1) := by decide +kernel
theorem dJ2_getChar_3b067_48 : decode cJ2_getChar_3b067 48 = .ok (.baload, 1) := by decide +kernel
theorem dJ2_getChar_3b067_49 : decode cJ2_getChar_3b067 49 = .ok (.sipush 255, 3) := by decide +kernel
theorem dJ2_getChar_3b067_52 : decode cJ2_getChar_3b067 52 = .ok (.iand, 1) := by decide +kernel
theorem dJ2_getChar_3b067_53 : decode cJ2_getChar_3b067 53 = .ok (.getstatic 63, 3) := by decide +kernel
theorem dJ2_getChar_3b067_56 : decode cJ2_getChar_3b067 56 = .ok (.ishl, 1) := by decide +kernel
theorem dJ2_getChar_3b067_57 : decode cJ2_getChar_3b067 57 = .ok (.ior, 1) := by decide +kernel
theorem dJ2_getChar_3b067_58 : decode cJ2_getChar_3b067 58 = .ok (.i2c, 1) := by decide +kernel
theorem dJ2_getChar_3b067_59 : decode cJ2_getChar_3b067 59 = .ok (.ireturn, 1) := by decide +kernel
theorem dJ2_length_9d52b_0 : decode cJ2_length_9d52b 0 = .ok (.aload_n 0, 1) := by decide +kernel
theorem dJ2_length_9d52b_1 : decode cJ2_length_9d52b 1 = .ok (.arraylength, 1) := by decide +kernel
theorem dJ2_length_9d52b_2 : decode cJ2_length_9d52b 2 = .ok (.iconst 1, 1) := by decide +kernel
theorem dJ2_length_9d52b_3 : decode cJ2_length_9d52b 3 = .ok (.ishr, 1) := by decide +kernel
theorem dJ2_length_9d52b_4 : decode cJ2_length_9d52b 4 = .ok (.ireturn, 1) := by decide +kernel
set_option maxRecDepth 20000 in
theorem ggJ2_charAt_3b067_J2_checkIndex_2214a : GoodIn wsJ2_charAt_3b067 wsJ2_checkIndex_2214a := goodIn_r _ [4, 5, 6, 3, 7, 8, 9, 10, 11, 12, 13, 14, 15, 16] rfl (by decide +kernel)
set_option maxRecDepth 20000 in
theorem gJ2_charAt_3b067_J2_checkIndex_2214a : GoodIn wsJ2_charAt_3b067 (va_wsS RJ2 67 yJ2_checkIndex_2214a wsJ2_checkIndex_2214a) := goodIn_app (goodIn_of _ (by decide +kernel)) ggJ2_charAt_3b067_J2_checkIndex_2214a
set_option maxRecDepth 20000 in
theorem ggJ2_charAt_3b067_J2_getChar_3b067 : GoodIn wsJ2_charAt_3b067 wsJ2_getChar_3b067 := goodIn_r _ [19, 20, 21, 22, 5, 6, 3, 7] rfl (by decide +kernel)
set_option maxRecDepth 20000 in
theorem gJ2_charAt_3b067_J2_getChar_3b067 : GoodIn wsJ2_charAt_3b067 (va_wsS RJ2 71 yJ2_getChar_3b067 wsJ2_getChar_3b067) := goodIn_app (goodIn_of _ (by decide +kernel)) ggJ2_charAt_3b067_J2_getChar_3b067
theorem dJ2_charAt_3b067_0 : decode cJ2_charAt_3b067 0 = .ok (.iload_n 1, 1) := by decide +kernel
theorem dJ2_charAt_3b067_1 : decode cJ2_charAt_3b067 1 = .ok (.aload_n 0, 1) := by decide +kernel
theorem dJ2_charAt_3b067_2 : decode cJ2_charAt_3b067 2 = .ok (.invokestatic 67, 3) := by decide +kernel
theorem dJ2_charAt_3b067_5 : decode cJ2_charAt_3b067 5 = .ok (.aload_n 0, 1) := by decide +kernel
theorem dJ2_charAt_3b067_6 : decode cJ2_charAt_3b067 6 = .ok (.iload_n 1, 1) := by decide +kernel
theorem dJ2_charAt_3b067_7 : decode cJ2_charAt_3b067 7 = .ok (.invokestatic 71, 3) := by decide +kernel
theorem dJ2_charAt_3b067_10 : decode cJ2_charAt_3b067 10 = .ok (.ireturn, 1) := by decide +kernel
set_option maxRecDepth 20000 in
theorem ggJ2_checkIndex_2214a_J2_length_9d52b : GoodIn wsJ2_checkIndex_2214a wsJ2_length_9d52b := goodIn_r _ [4] rfl (by decide +kernel)
set_option maxRecDepth 20000 in
theorem gJ2_checkIndex_2214a_J2_length_9d52b : GoodIn wsJ2_checkIndex_2214a (va_wsS RJ2 48 yJ2_length_9d52b wsJ2_length_9d52b) := goodIn_app (goodIn_of _ (by decide +kernel)) ggJ2_checkIndex_2214a_J2_length_9d52b
set_option maxRecDepth 20000 in
theorem ggJ2_checkIndex_2214a_J0_checkIndex_df160 : GoodIn wsJ2_checkIndex_2214a wsJ0_checkIndex_df160 := goodIn_r _ [8, 9, 10, 11, 12, 13] rfl (by decide +kernel)
set_option maxRecDepth 20000 in
theorem gJ2_checkIndex_2214a_J0_checkIndex_df160 : GoodIn wsJ2_checkIndex_2214a (va_wsS RJ2 414 yJ0_checkIndex_df160 wsJ0_checkIndex_df160) := goodIn_app (goodIn_of _ (by decide +kernel)) ggJ2_checkIndex_2214a_J0_checkIndex_df160
theorem dJ2_checkIndex_2214a_0 : decode cJ2_checkIndex_2214a 0 = .ok (.iload_n 0, 1) := by decide +kernel
theorem dJ2_checkIndex_2214a_1 : decode cJ2_checkIndex_2214a 1 = .ok (.aload_n 1, 1) := by decide +kernel
theorem dJ2_checkIndex_2214a_2 : decode cJ2_checkIndex_2214a 2 = .ok (.invokestatic 48, 3) := by decide +kernel
theorem dJ2_checkIndex_2214a_5 : decode cJ2_checkIndex_2214a 5 = .ok (.invokestatic 414, 3) := by decide +kernel
theorem dJ2_checkIndex_2214a_8 : decode cJ2_checkIndex_2214a 8 = .ok (.return_, 1) := by decide +kernel
theorem dJ7_fill_53178_0 : decode cJ7_fill_53178 0 = .ok (.iconst 0, 1) := by decide +kernel
theorem dJ7_fill_53178_1 : decode cJ7_fill_53178 1 = .ok (.istore_n 2, 1) := by decide +kernel
theorem dJ7_fill_53178_2 : decode cJ7_fill_53178 2 = .ok (.aload_n 0, 1) := by decide +kernel
theorem dJ7_fill_53178_3 : decode cJ7_fill_53178 3 = .ok (.arraylength, 1) := by decide +kernel
theorem dJ7_fill_53178_4 : decode cJ7_fill_53178 4 = .ok (.istore_n 3, 1) := by decide +kernel
theorem dJ7_fill_53178_5 : decode cJ7_fill_53178 5 = .ok (.iload_n 2, 1) := by decide +kernel
theorem dJ7_fill_53178_6 : decode cJ7_fill_53178 6 = .ok (.iload_n 3, 1) := by decide +kernel
theorem dJ7_fill_53178_7 : decode cJ7_fill_53178 7 = .ok (.if_icmp .ge 13, 3) := by decide +kernel
theorem dJ7_fill_53178_10 : decode cJ7_fill_53178 10 = .ok (.aload_n 0, 1) := by decide +kernel
theorem dJ7_fill_53178_11 : decode cJ7_fill_53178 11 = .ok (.iload_n 2, 1) := by decide +kernel
theorem dJ7_fill_53178_12 : decode cJ7_fill_53178 12 = .ok (.iload_n 1, 1) := by decide +kernel
theorem dJ7_fill_53178_13 : decode cJ7_fill_53178 13 = .ok (.iastore, 1) := by decide +kernel
theorem dJ7_fill_53178_14 : decode cJ7_fill_53178 14 = .ok (.iinc 2 1, 3) := by decide +kernel
theorem dJ7_fill_53178_17 : decode cJ7_fill_53178 17 = .ok (.goto (-12), 3) := by decide +kernel
theorem dJ7_fill_53178_20 : decode cJ7_fill_53178 20 = .ok (.return_, 1) := by decide +kernel
theorem dJ3_checkIndex_8e157_0 : decode cJ3_checkIndex_8e157 0 = .ok (.iload_n 0, 1) := by decide +kernel
theorem dJ3_checkIndex_8e157_1 : decode cJ3_checkIndex_8e157 1 = .ok (.ifCond .lt 8, 3) := by decide +kernel
theorem dJ3_checkIndex_8e157_4 : decode cJ3_checkIndex_8e157 4 = .ok (.iload_n 0, 1) := by decide +kernel
theorem dJ3_checkIndex_8e157_5 : decode cJ3_checkIndex_8e157 5 = .ok (.iload_n 1, 1) := by decide +kernel
theorem dJ3_checkIndex_8e157_6 : decode cJ3_checkIndex_8e157 6 = .ok (.if_icmp .lt 10, 3) := by decide +kernel
theorem dJ3_checkIndex_8e157_9 : decode cJ3_checkIndex_8e157 9 = .ok (.aload_n 2, 1) := by decide +kernel
theorem dJ3_checkIndex_8e157_10 : decode cJ3_checkIndex_8e157 10 = .ok (.iload_n 0, 1) := by decide +kernel
theorem dJ3_checkIndex_8e157_11 : decode cJ3_checkIndex_8e157 11 = .ok (.iload_n 1, 1) := by decide +kernel
theorem dJ3_checkIndex_8e157_12 : decode cJ3_checkIndex_8e157 12 = .ok (.invokestatic 95, 3) := by decide +kernel
theorem dJ3_checkIndex_8e157_15 : decode cJ3_checkIndex_8e157 15 = .ok (.athrow, 1) := by decide +kernel
theorem dJ3_checkIndex_8e157_16 : decode cJ3_checkIndex_8e157 16 = .ok (.iload_n 0, 1) := by decide +kernel
theorem dJ3_checkIndex_8e157_17 : decode cJ3_checkIndex_8e157 17 = .ok (.ireturn, 1) := by decide +kernel
