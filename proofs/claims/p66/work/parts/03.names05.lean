theorem dX7_readStep_82 : decode cX7_readStep 82 = .ok (.aload_n 1, 1) := by decide +kernel
theorem dX7_readStep_83 : decode cX7_readStep 83 = .ok (.getfield 105, 3) := by decide +kernel
theorem dX7_readStep_86 : decode cX7_readStep 86 = .ok (.iload_n 2, 1) := by decide +kernel
theorem dX7_readStep_87 : decode cX7_readStep 87 = .ok (.aload_n 0, 1) := by decide +kernel
theorem dX7_readStep_88 : decode cX7_readStep 88 = .ok (.getfield 9, 3) := by decide +kernel
theorem dX7_readStep_91 : decode cX7_readStep 91 = .ok (.iconst 0, 1) := by decide +kernel
theorem dX7_readStep_92 : decode cX7_readStep 92 = .ok (.bipush 9, 2) := by decide +kernel
theorem dX7_readStep_94 : decode cX7_readStep 94 = .ok (.invokevirtual 54, 3) := by decide +kernel
theorem dX7_readStep_97 : decode cX7_readStep 97 = .ok (.iastore, 1) := by decide +kernel
theorem dX7_readStep_98 : decode cX7_readStep 98 = .ok (.aload_n 0, 1) := by decide +kernel
theorem dX7_readStep_99 : decode cX7_readStep 99 = .ok (.aload_n 1, 1) := by decide +kernel
theorem dX7_readStep_100 : decode cX7_readStep 100 = .ok (.iload_n 2, 1) := by decide +kernel
theorem dX7_readStep_101 : decode cX7_readStep 101 = .ok (.invokevirtual 108, 3) := by decide +kernel
theorem dX7_readStep_104 : decode cX7_readStep 104 = .ok (.aload_n 0, 1) := by decide +kernel
theorem dX7_readStep_105 : decode cX7_readStep 105 = .ok (.getfield 9, 3) := by decide +kernel
theorem dX7_readStep_108 : decode cX7_readStep 108 = .ok (.ldc 112, 2) := by decide +kernel
theorem dX7_readStep_110 : decode cX7_readStep 110 = .ok (.invokevirtual 47, 3) := by decide +kernel
theorem dX7_readStep_113 : decode cX7_readStep 113 = .ok (.ifCond .eq 15, 3) := by decide +kernel
theorem dX7_readStep_116 : decode cX7_readStep 116 = .ok (.aload_n 1, 1) := by decide +kernel
theorem dX7_readStep_117 : decode cX7_readStep 117 = .ok (.dup, 1) := by decide +kernel
theorem dX7_readStep_118 : decode cX7_readStep 118 = .ok (.getfield 114, 3) := by decide +kernel
theorem dX7_readStep_121 : decode cX7_readStep 121 = .ok (.iconst 1, 1) := by decide +kernel
theorem dX7_readStep_122 : decode cX7_readStep 122 = .ok (.iload_n 2, 1) := by decide +kernel
theorem dX7_readStep_123 : decode cX7_readStep 123 = .ok (.ishl, 1) := by decide +kernel
theorem dX7_readStep_124 : decode cX7_readStep 124 = .ok (.ior, 1) := by decide +kernel
theorem dX7_readStep_125 : decode cX7_readStep 125 = .ok (.putfield 114, 3) := by decide +kernel
theorem dX7_readStep_128 : decode cX7_readStep 128 = .ok (.aload_n 0, 1) := by decide +kernel
theorem dX7_readStep_129 : decode cX7_readStep 129 = .ok (.getfield 9, 3) := by decide +kernel
theorem dX7_readStep_132 : decode cX7_readStep 132 = .ok (.ldc 116, 2) := by decide +kernel
theorem dX7_readStep_134 : decode cX7_readStep 134 = .ok (.invokevirtual 47, 3) := by decide +kernel
theorem dX7_readStep_137 : decode cX7_readStep 137 = .ok (.ifCond .eq 15, 3) := by decide +kernel
theorem dX7_readStep_140 : decode cX7_readStep 140 = .ok (.aload_n 1, 1) := by decide +kernel
theorem dX7_readStep_141 : decode cX7_readStep 141 = .ok (.dup, 1) := by decide +kernel
theorem dX7_readStep_142 : decode cX7_readStep 142 = .ok (.getfield 118, 3) := by decide +kernel
theorem dX7_readStep_145 : decode cX7_readStep 145 = .ok (.iconst 1, 1) := by decide +kernel
theorem dX7_readStep_146 : decode cX7_readStep 146 = .ok (.iload_n 2, 1) := by decide +kernel
theorem dX7_readStep_147 : decode cX7_readStep 147 = .ok (.ishl, 1) := by decide +kernel
theorem dX7_readStep_148 : decode cX7_readStep 148 = .ok (.ior, 1) := by decide +kernel
theorem dX7_readStep_149 : decode cX7_readStep 149 = .ok (.putfield 118, 3) := by decide +kernel
theorem dX7_readStep_152 : decode cX7_readStep 152 = .ok (.aload_n 0, 1) := by decide +kernel
theorem dX7_readStep_153 : decode cX7_readStep 153 = .ok (.getfield 9, 3) := by decide +kernel
theorem dX7_readStep_156 : decode cX7_readStep 156 = .ok (.ldc 120, 2) := by decide +kernel
theorem dX7_readStep_158 : decode cX7_readStep 158 = .ok (.invokevirtual 47, 3) := by decide +kernel
theorem dX7_readStep_161 : decode cX7_readStep 161 = .ok (.ifCond .eq 9, 3) := by decide +kernel
theorem dX7_readStep_164 : decode cX7_readStep 164 = .ok (.aload_n 0, 1) := by decide +kernel
theorem dX7_readStep_165 : decode cX7_readStep 165 = .ok (.aload_n 1, 1) := by decide +kernel
theorem dX7_readStep_166 : decode cX7_readStep 166 = .ok (.iload_n 2, 1) := by decide +kernel
theorem dX7_readStep_167 : decode cX7_readStep 167 = .ok (.invokevirtual 122, 3) := by decide +kernel
theorem dX7_readStep_170 : decode cX7_readStep 170 = .ok (.aload_n 0, 1) := by decide +kernel
theorem dX7_readStep_171 : decode cX7_readStep 171 = .ok (.getfield 9, 3) := by decide +kernel
theorem dX7_readStep_174 : decode cX7_readStep 174 = .ok (.invokevirtual 71, 3) := by decide +kernel
theorem dX7_readStep_177 : decode cX7_readStep 177 = .ok (.aload_n 1, 1) := by decide +kernel
theorem dX7_readStep_178 : decode cX7_readStep 178 = .ok (.getfield 97, 3) := by decide +kernel
theorem dX7_readStep_181 : decode cX7_readStep 181 = .ok (.dup, 1) := by decide +kernel
theorem dX7_readStep_182 : decode cX7_readStep 182 = .ok (.getfield 78, 3) := by decide +kernel
theorem dX7_readStep_185 : decode cX7_readStep 185 = .ok (.iconst 1, 1) := by decide +kernel
theorem dX7_readStep_186 : decode cX7_readStep 186 = .ok (.iadd, 1) := by decide +kernel
theorem dX7_readStep_187 : decode cX7_readStep 187 = .ok (.putfield 78, 3) := by decide +kernel
theorem dX7_readStep_190 : decode cX7_readStep 190 = .ok (.return_, 1) := by decide +kernel
set_option maxRecDepth 20000 in
theorem ggX7_readPanOf_X10_accept : GoodIn wsX7_readPanOf wsX10_accept := goodIn_r _ [6, 7, 8, 9, 5, 10, 11, 12, 13, 14, 15, 16, 17, 18, 19, 20, 21, 22, 23, 24, 25, 26, 27, 28, 29, 30, 31, 32, 33, 34, 35, 36, 37, 38, 39, 40, 41, 42, 43, 44, 45, 46, 47, 48, 49, 50, 51, 52, 53, 54, 55, 56, 57, 58, 59, 60, 61, 62, 63, 64, 65, 66, 67, 68, 69, 70, 71, 72, 73, 74, 75, 76, 77, 119, 120, 121, 122, 123, 124, 125, 126, 127, 128, 129, 130] rfl (by decide +kernel)
set_option maxRecDepth 20000 in
theorem gX7_readPanOf_X10_accept : GoodIn wsX7_readPanOf (wsV RX7 47 RX10 yX10_accept wsX10_accept) := goodIn_app (goodIn_of _ (by decide +kernel)) ggX7_readPanOf_X10_accept
set_option maxRecDepth 20000 in
theorem ggX7_readPanOf_X10_findName : GoodIn wsX7_readPanOf wsX10_findName := goodIn_r _ [81, 11, 14, 13, 12, 82, 83, 84, 5, 85, 86, 87, 88, 89, 90, 91, 92, 93, 94, 95, 96, 97, 98, 99, 119, 120, 121, 122, 123, 124, 131, 132, 133, 125, 126] rfl (by decide +kernel)
set_option maxRecDepth 20000 in
theorem gX7_readPanOf_X10_findName : GoodIn wsX7_readPanOf (wsV RX7 129 RX10 yX10_findName wsX10_findName) := goodIn_app (goodIn_of _ (by decide +kernel)) ggX7_readPanOf_X10_findName
set_option maxRecDepth 20000 in
theorem ggX7_readPanOf_X10_advance : GoodIn wsX7_readPanOf wsX10_advance := goodIn_r _ [67, 12, 13, 14, 11, 68, 69, 5, 70, 71, 72, 73, 74, 75, 76, 77, 119, 120, 121, 122, 123, 124, 125, 126] rfl (by decide +kernel)
set_option maxRecDepth 20000 in
theorem gX7_readPanOf_X10_advance : GoodIn wsX7_readPanOf (wsV RX7 86 RX10 yX10_advance wsX10_advance) := goodIn_app (goodIn_of _ (by decide +kernel)) ggX7_readPanOf_X10_advance
theorem dX7_readPanOf_0 : decode cX7_readPanOf 0 = .ok (.aload_n 1, 1) := by decide +kernel
theorem dX7_readPanOf_1 : decode cX7_readPanOf 1 = .ok (.getfield 125, 3) := by decide +kernel
theorem dX7_readPanOf_4 : decode cX7_readPanOf 4 = .ok (.iload_n 2, 1) := by decide +kernel
theorem dX7_readPanOf_5 : decode cX7_readPanOf 5 = .ok (.iconst (-1), 1) := by decide +kernel
theorem dX7_readPanOf_6 : decode cX7_readPanOf 6 = .ok (.iastore, 1) := by decide +kernel
theorem dX7_readPanOf_7 : decode cX7_readPanOf 7 = .ok (.aload_n 0, 1) := by decide +kernel
theorem dX7_readPanOf_8 : decode cX7_readPanOf 8 = .ok (.getfield 9, 3) := by decide +kernel
theorem dX7_readPanOf_11 : decode cX7_readPanOf 11 = .ok (.ldc 127, 2) := by decide +kernel
theorem dX7_readPanOf_13 : decode cX7_readPanOf 13 = .ok (.invokevirtual 47, 3) := by decide +kernel
theorem dX7_readPanOf_16 : decode cX7_readPanOf 16 = .ok (.ifCond .eq 46, 3) := by decide +kernel
theorem dX7_readPanOf_19 : decode cX7_readPanOf 19 = .ok (.aload_n 0, 1) := by decide +kernel
theorem dX7_readPanOf_20 : decode cX7_readPanOf 20 = .ok (.getfield 9, 3) := by decide +kernel
theorem dX7_readPanOf_23 : decode cX7_readPanOf 23 = .ok (.aload_n 1, 1) := by decide +kernel
theorem dX7_readPanOf_24 : decode cX7_readPanOf 24 = .ok (.getfield 74, 3) := by decide +kernel
theorem dX7_readPanOf_27 : decode cX7_readPanOf 27 = .ok (.invokevirtual 129, 3) := by decide +kernel
theorem dX7_readPanOf_30 : decode cX7_readPanOf 30 = .ok (.istore_n 3, 1) := by decide +kernel
theorem dX7_readPanOf_31 : decode cX7_readPanOf 31 = .ok (.iload_n 3, 1) := by decide +kernel
theorem dX7_readPanOf_32 : decode cX7_readPanOf 32 = .ok (.iconst (-1), 1) := by decide +kernel
theorem dX7_readPanOf_33 : decode cX7_readPanOf 33 = .ok (.if_icmp .eq 29, 3) := by decide +kernel
theorem dX7_readPanOf_36 : decode cX7_readPanOf 36 = .ok (.aload_n 1, 1) := by decide +kernel
theorem dX7_readPanOf_37 : decode cX7_readPanOf 37 = .ok (.getfield 125, 3) := by decide +kernel
theorem dX7_readPanOf_40 : decode cX7_readPanOf 40 = .ok (.iload_n 2, 1) := by decide +kernel
theorem dX7_readPanOf_41 : decode cX7_readPanOf 41 = .ok (.iload_n 3, 1) := by decide +kernel
theorem dX7_readPanOf_42 : decode cX7_readPanOf 42 = .ok (.iastore, 1) := by decide +kernel
theorem dX7_readPanOf_43 : decode cX7_readPanOf 43 = .ok (.aload_n 1, 1) := by decide +kernel
theorem dX7_readPanOf_44 : decode cX7_readPanOf 44 = .ok (.getfield 133, 3) := by decide +kernel
theorem dX7_readPanOf_47 : decode cX7_readPanOf 47 = .ok (.iload_n 3, 1) := by decide +kernel
theorem dX7_readPanOf_48 : decode cX7_readPanOf 48 = .ok (.dup2, 1) := by decide +kernel
theorem dX7_readPanOf_49 : decode cX7_readPanOf 49 = .ok (.iaload, 1) := by decide +kernel
theorem dX7_readPanOf_50 : decode cX7_readPanOf 50 = .ok (.iconst 1, 1) := by decide +kernel
theorem dX7_readPanOf_51 : decode cX7_readPanOf 51 = .ok (.iload_n 2, 1) := by decide +kernel
theorem dX7_readPanOf_52 : decode cX7_readPanOf 52 = .ok (.ishl, 1) := by decide +kernel
theorem dX7_readPanOf_53 : decode cX7_readPanOf 53 = .ok (.ior, 1) := by decide +kernel
theorem dX7_readPanOf_54 : decode cX7_readPanOf 54 = .ok (.iastore, 1) := by decide +kernel
theorem dX7_readPanOf_55 : decode cX7_readPanOf 55 = .ok (.aload_n 0, 1) := by decide +kernel
theorem dX7_readPanOf_56 : decode cX7_readPanOf 56 = .ok (.getfield 9, 3) := by decide +kernel
theorem dX7_readPanOf_59 : decode cX7_readPanOf 59 = .ok (.invokevirtual 86, 3) := by decide +kernel
theorem dX7_readPanOf_62 : decode cX7_readPanOf 62 = .ok (.return_, 1) := by decide +kernel
set_option maxRecDepth 20000 in
theorem ggX7_readPredecessors_X10_isAnyWord : GoodIn wsX7_readPredecessors wsX10_isAnyWord := goodIn_r _ [6, 7, 77, 78, 79, 80, 81, 82] rfl (by decide +kernel)
set_option maxRecDepth 20000 in
theorem gX7_readPredecessors_X10_isAnyWord : GoodIn wsX7_readPredecessors (wsV RX7 136 RX10 yX10_isAnyWord wsX10_isAnyWord) := goodIn_app (goodIn_of _ (by decide +kernel)) ggX7_readPredecessors_X10_isAnyWord
set_option maxRecDepth 20000 in
theorem ggX7_readPredecessors_X10_findName : GoodIn wsX7_readPredecessors wsX10_findName := goodIn_r _ [11, 7, 12, 13, 14, 15, 16, 17, 5, 18, 19, 20, 21, 22, 23, 24, 25, 26, 27, 28, 29, 30, 31, 32, 77, 78, 79, 80, 81, 82, 83, 84, 85, 86, 87] rfl (by decide +kernel)
set_option maxRecDepth 20000 in
theorem gX7_readPredecessors_X10_findName : GoodIn wsX7_readPredecessors (wsV RX7 129 RX10 yX10_findName wsX10_findName) := goodIn_app (goodIn_of _ (by decide +kernel)) ggX7_readPredecessors_X10_findName
set_option maxRecDepth 20000 in
theorem ggX7_readPredecessors_X11_contains : GoodIn wsX7_readPredecessors wsX11_contains := goodIn_r _ [35] rfl (by decide +kernel)
set_option maxRecDepth 20000 in
theorem gX7_readPredecessors_X11_contains_n142 : GoodIn wsX7_readPredecessors (wsX11_contains) := ggX7_readPredecessors_X11_contains
set_option maxRecDepth 20000 in
theorem ggX7_readPredecessors_X10_fail : GoodIn wsX7_readPredecessors wsX10_fail := goodIn_r _ [18, 7, 19, 13, 20, 77, 78, 79, 80, 81, 82] rfl (by decide +kernel)
set_option maxRecDepth 20000 in
theorem gX7_readPredecessors_X10_fail : GoodIn wsX7_readPredecessors (wsV RX7 50 RX10 yX10_fail wsX10_fail) := goodIn_app (goodIn_of _ (by decide +kernel)) ggX7_readPredecessors_X10_fail
set_option maxRecDepth 20000 in
theorem ggX7_readPredecessors_X5_addPredecessor : GoodIn wsX7_readPredecessors wsX5_addPredecessor := goodIn_r _ [41, 42, 43, 44, 45, 60, 61, 62, 63, 64, 65, 66, 67, 68, 69, 70, 71, 72, 73, 74, 75, 76] rfl (by decide +kernel)
set_option maxRecDepth 20000 in
theorem gX7_readPredecessors_X5_addPredecessor : GoodIn wsX7_readPredecessors (wsV RX7 149 RX5 yX5_addPredecessor wsX5_addPredecessor) := goodIn_app (goodIn_of _ (by decide +kernel)) ggX7_readPredecessors_X5_addPredecessor
set_option maxRecDepth 20000 in
theorem ggX7_readPredecessors_X10_advance : GoodIn wsX7_readPredecessors wsX10_advance := goodIn_r _ [49, 14, 13, 12, 7, 50, 51, 5, 52, 53, 34, 54, 55, 56, 57, 58, 77, 78, 79, 80, 81, 82, 86, 87] rfl (by decide +kernel)
set_option maxRecDepth 20000 in
theorem gX7_readPredecessors_X10_advance : GoodIn wsX7_readPredecessors (wsV RX7 86 RX10 yX10_advance wsX10_advance) := goodIn_app (goodIn_of _ (by decide +kernel)) ggX7_readPredecessors_X10_advance
theorem dX7_readPredecessors_0 : decode cX7_readPredecessors 0 = .ok (.iconst 0, 1) := by decide +kernel
theorem dX7_readPredecessors_1 : decode cX7_readPredecessors 1 = .ok (.istore_n 3, 1) := by decide +kernel
theorem dX7_readPredecessors_2 : decode cX7_readPredecessors 2 = .ok (.iload_n 3, 1) := by decide +kernel
theorem dX7_readPredecessors_3 : decode cX7_readPredecessors 3 = .ok (.iconst 4, 1) := by decide +kernel
theorem dX7_readPredecessors_4 : decode cX7_readPredecessors 4 = .ok (.if_icmp .gt 103, 3) := by decide +kernel
theorem dX7_readPredecessors_7 : decode cX7_readPredecessors 7 = .ok (.iload_n 3, 1) := by decide +kernel
theorem dX7_readPredecessors_8 : decode cX7_readPredecessors 8 = .ok (.ifCond .eq 13, 3) := by decide +kernel
theorem dX7_readPredecessors_11 : decode cX7_readPredecessors 11 = .ok (.aload_n 0, 1) := by decide +kernel
theorem dX7_readPredecessors_12 : decode cX7_readPredecessors 12 = .ok (.getfield 9, 3) := by decide +kernel
theorem dX7_readPredecessors_15 : decode cX7_readPredecessors 15 = .ok (.invokevirtual 136, 3) := by decide +kernel
theorem dX7_readPredecessors_18 : decode cX7_readPredecessors 18 = .ok (.ifCond .eq 89, 3) := by decide +kernel
theorem dX7_readPredecessors_21 : decode cX7_readPredecessors 21 = .ok (.aload_n 0, 1) := by decide +kernel
theorem dX7_readPredecessors_22 : decode cX7_readPredecessors 22 = .ok (.getfield 9, 3) := by decide +kernel
theorem dX7_readPredecessors_25 : decode cX7_readPredecessors 25 = .ok (.aload_n 1, 1) := by decide +kernel
theorem dX7_readPredecessors_26 : decode cX7_readPredecessors 26 = .ok (.getfield 97, 3) := by decide +kernel
theorem dX7_readPredecessors_29 : decode cX7_readPredecessors 29 = .ok (.invokevirtual 129, 3) := by decide +kernel
theorem dX7_readPredecessors_32 : decode cX7_readPredecessors 32 = .ok (.istore 4, 2) := by decide +kernel
theorem dX7_readPredecessors_34 : decode cX7_readPredecessors 34 = .ok (.iload 4, 2) := by decide +kernel
theorem dX7_readPredecessors_36 : decode cX7_readPredecessors 36 = .ok (.iconst (-1), 1) := by decide +kernel
theorem dX7_readPredecessors_37 : decode cX7_readPredecessors 37 = .ok (.if_icmp .ne 4, 3) := by decide +kernel
theorem dX7_readPredecessors_40 : decode cX7_readPredecessors 40 = .ok (.return_, 1) := by decide +kernel
theorem dX7_readPredecessors_41 : decode cX7_readPredecessors 41 = .ok (.aload_n 1, 1) := by decide +kernel
theorem dX7_readPredecessors_42 : decode cX7_readPredecessors 42 = .ok (.getfield 139, 3) := by decide +kernel
theorem dX7_readPredecessors_45 : decode cX7_readPredecessors 45 = .ok (.iload_n 2, 1) := by decide +kernel
theorem dX7_readPredecessors_46 : decode cX7_readPredecessors 46 = .ok (.iaload, 1) := by decide +kernel
theorem dX7_readPredecessors_47 : decode cX7_readPredecessors 47 = .ok (.iload 4, 2) := by decide +kernel
theorem dX7_readPredecessors_49 : decode cX7_readPredecessors 49 = .ok (.invokestatic 142, 3) := by decide +kernel
theorem dX7_readPredecessors_52 : decode cX7_readPredecessors 52 = .ok (.ifCond .eq 14, 3) := by decide +kernel
theorem dX7_readPredecessors_55 : decode cX7_readPredecessors 55 = .ok (.aload_n 0, 1) := by decide +kernel
theorem dX7_readPredecessors_56 : decode cX7_readPredecessors 56 = .ok (.getfield 9, 3) := by decide +kernel
theorem dX7_readPredecessors_59 : decode cX7_readPredecessors 59 = .ok (.iconst 4, 1) := by decide +kernel
theorem dX7_readPredecessors_60 : decode cX7_readPredecessors 60 = .ok (.invokevirtual 50, 3) := by decide +kernel
theorem dX7_readPredecessors_63 : decode cX7_readPredecessors 63 = .ok (.goto 38, 3) := by decide +kernel
theorem dX7_readPredecessors_66 : decode cX7_readPredecessors 66 = .ok (.aload_n 1, 1) := by decide +kernel
theorem dX7_readPredecessors_67 : decode cX7_readPredecessors 67 = .ok (.getfield 146, 3) := by decide +kernel
theorem dX7_readPredecessors_70 : decode cX7_readPredecessors 70 = .ok (.iload_n 2, 1) := by decide +kernel
theorem dX7_readPredecessors_71 : decode cX7_readPredecessors 71 = .ok (.iaload, 1) := by decide +kernel
theorem dX7_readPredecessors_72 : decode cX7_readPredecessors 72 = .ok (.iconst 4, 1) := by decide +kernel
theorem dX7_readPredecessors_73 : decode cX7_readPredecessors 73 = .ok (.if_icmp .lt 14, 3) := by decide +kernel
theorem dX7_readPredecessors_76 : decode cX7_readPredecessors 76 = .ok (.aload_n 0, 1) := by decide +kernel
theorem dX7_readPredecessors_77 : decode cX7_readPredecessors 77 = .ok (.getfield 9, 3) := by decide +kernel
theorem dX7_readPredecessors_80 : decode cX7_readPredecessors 80 = .ok (.iconst 5, 1) := by decide +kernel
theorem dX7_readPredecessors_81 : decode cX7_readPredecessors 81 = .ok (.invokevirtual 50, 3) := by decide +kernel
theorem dX7_readPredecessors_84 : decode cX7_readPredecessors 84 = .ok (.goto 17, 3) := by decide +kernel
theorem dX7_readPredecessors_87 : decode cX7_readPredecessors 87 = .ok (.aload_n 1, 1) := by decide +kernel
theorem dX7_readPredecessors_88 : decode cX7_readPredecessors 88 = .ok (.iload_n 2, 1) := by decide +kernel
theorem dX7_readPredecessors_89 : decode cX7_readPredecessors 89 = .ok (.iload 4, 2) := by decide +kernel
theorem dX7_readPredecessors_91 : decode cX7_readPredecessors 91 = .ok (.invokevirtual 149, 3) := by decide +kernel
theorem dX7_readPredecessors_94 : decode cX7_readPredecessors 94 = .ok (.aload_n 0, 1) := by decide +kernel
theorem dX7_readPredecessors_95 : decode cX7_readPredecessors 95 = .ok (.getfield 9, 3) := by decide +kernel
theorem dX7_readPredecessors_98 : decode cX7_readPredecessors 98 = .ok (.invokevirtual 86, 3) := by decide +kernel
theorem dX7_readPredecessors_101 : decode cX7_readPredecessors 101 = .ok (.iinc 3 1, 3) := by decide +kernel
theorem dX7_readPredecessors_104 : decode cX7_readPredecessors 104 = .ok (.goto (-102), 3) := by decide +kernel
theorem dX7_readPredecessors_107 : decode cX7_readPredecessors 107 = .ok (.return_, 1) := by decide +kernel
theorem dX8_init_0 : decode cX8_init 0 = .ok (.aload_n 0, 1) := by decide +kernel
theorem dX8_init_1 : decode cX8_init 1 = .ok (.invokespecial 3, 3) := by decide +kernel
theorem dX8_init_4 : decode cX8_init 4 = .ok (.aload_n 0, 1) := by decide +kernel
theorem dX8_init_5 : decode cX8_init 5 = .ok (.bipush 14, 2) := by decide +kernel
theorem dX8_init_7 : decode cX8_init 7 = .ok (.newarray .int, 2) := by decide +kernel
theorem dX8_init_9 : decode cX8_init 9 = .ok (.putfield 9, 3) := by decide +kernel
theorem dX8_init_12 : decode cX8_init 12 = .ok (.aload_n 0, 1) := by decide +kernel
theorem dX8_init_13 : decode cX8_init 13 = .ok (.bipush 14, 2) := by decide +kernel
theorem dX8_init_15 : decode cX8_init 15 = .ok (.newarray .int, 2) := by decide +kernel
theorem dX8_init_17 : decode cX8_init 17 = .ok (.putfield 15, 3) := by decide +kernel
theorem dX8_init_20 : decode cX8_init 20 = .ok (.aload_n 0, 1) := by decide +kernel
theorem dX8_init_21 : decode cX8_init 21 = .ok (.bipush 14, 2) := by decide +kernel
theorem dX8_init_23 : decode cX8_init 23 = .ok (.newarray .int, 2) := by decide +kernel
theorem dX8_init_25 : decode cX8_init 25 = .ok (.putfield 18, 3) := by decide +kernel
theorem dX8_init_28 : decode cX8_init 28 = .ok (.aload_n 0, 1) := by decide +kernel
theorem dX8_init_29 : decode cX8_init 29 = .ok (.bipush 14, 2) := by decide +kernel
theorem dX8_init_31 : decode cX8_init 31 = .ok (.newarray .int, 2) := by decide +kernel
theorem dX8_init_33 : decode cX8_init 33 = .ok (.putfield 21, 3) := by decide +kernel
theorem dX8_init_36 : decode cX8_init 36 = .ok (.aload_n 0, 1) := by decide +kernel
theorem dX8_init_37 : decode cX8_init 37 = .ok (.bipush 14, 2) := by decide +kernel
theorem dX8_init_39 : decode cX8_init 39 = .ok (.newarray .int, 2) := by decide +kernel
theorem dX8_init_41 : decode cX8_init 41 = .ok (.putfield 24, 3) := by decide +kernel
theorem dX8_init_44 : decode cX8_init 44 = .ok (.aload_n 0, 1) := by decide +kernel
theorem dX8_init_45 : decode cX8_init 45 = .ok (.bipush 14, 2) := by decide +kernel
theorem dX8_init_47 : decode cX8_init 47 = .ok (.newarray .int, 2) := by decide +kernel
theorem dX8_init_49 : decode cX8_init 49 = .ok (.putfield 27, 3) := by decide +kernel
theorem dX8_init_52 : decode cX8_init 52 = .ok (.return_, 1) := by decide +kernel
set_option maxRecDepth 20000 in
theorem ggX8_begin_J7_fill_53178 : GoodIn wsX8_begin wsJ7_fill_53178 := goodIn_r _ [23] rfl (by decide +kernel)
set_option maxRecDepth 20000 in
theorem gX8_begin_J7_fill_53178 : GoodIn wsX8_begin (va_wsS RX8 69 yJ7_fill_53178 wsJ7_fill_53178) := goodIn_app (goodIn_of _ (by decide +kernel)) ggX8_begin_J7_fill_53178
theorem dX8_begin_0 : decode cX8_begin 0 = .ok (.aload_n 0, 1) := by decide +kernel
theorem dX8_begin_1 : decode cX8_begin 1 = .ok (.aload_n 1, 1) := by decide +kernel
theorem dX8_begin_2 : decode cX8_begin 2 = .ok (.getfield 30, 3) := by decide +kernel
theorem dX8_begin_5 : decode cX8_begin 5 = .ok (.putfield 36, 3) := by decide +kernel
theorem dX8_begin_8 : decode cX8_begin 8 = .ok (.aload_n 0, 1) := by decide +kernel
theorem dX8_begin_9 : decode cX8_begin 9 = .ok (.iconst 0, 1) := by decide +kernel
theorem dX8_begin_10 : decode cX8_begin 10 = .ok (.putfield 37, 3) := by decide +kernel
theorem dX8_begin_13 : decode cX8_begin 13 = .ok (.aload_n 0, 1) := by decide +kernel
theorem dX8_begin_14 : decode cX8_begin 14 = .ok (.iconst 0, 1) := by decide +kernel
theorem dX8_begin_15 : decode cX8_begin 15 = .ok (.putfield 40, 3) := by decide +kernel
theorem dX8_begin_18 : decode cX8_begin 18 = .ok (.aload_n 0, 1) := by decide +kernel
theorem dX8_begin_19 : decode cX8_begin 19 = .ok (.iconst 0, 1) := by decide +kernel
theorem dX8_begin_20 : decode cX8_begin 20 = .ok (.putfield 43, 3) := by decide +kernel
theorem dX8_begin_23 : decode cX8_begin 23 = .ok (.aload_n 0, 1) := by decide +kernel
theorem dX8_begin_24 : decode cX8_begin 24 = .ok (.iconst 0, 1) := by decide +kernel
theorem dX8_begin_25 : decode cX8_begin 25 = .ok (.putfield 46, 3) := by decide +kernel
theorem dX8_begin_28 : decode cX8_begin 28 = .ok (.aload_n 0, 1) := by decide +kernel
theorem dX8_begin_29 : decode cX8_begin 29 = .ok (.iconst 0, 1) := by decide +kernel
theorem dX8_begin_30 : decode cX8_begin 30 = .ok (.putfield 49, 3) := by decide +kernel
theorem dX8_begin_33 : decode cX8_begin 33 = .ok (.aload_n 0, 1) := by decide +kernel
theorem dX8_begin_34 : decode cX8_begin 34 = .ok (.iconst 0, 1) := by decide +kernel
theorem dX8_begin_35 : decode cX8_begin 35 = .ok (.putfield 53, 3) := by decide +kernel
theorem dX8_begin_38 : decode cX8_begin 38 = .ok (.aload_n 0, 1) := by decide +kernel
theorem dX8_begin_39 : decode cX8_begin 39 = .ok (.iconst 0, 1) := by decide +kernel
theorem dX8_begin_40 : decode cX8_begin 40 = .ok (.putfield 56, 3) := by decide +kernel
theorem dX8_begin_43 : decode cX8_begin 43 = .ok (.aload_n 0, 1) := by decide +kernel
theorem dX8_begin_44 : decode cX8_begin 44 = .ok (.iconst 0, 1) := by decide +kernel
theorem dX8_begin_45 : decode cX8_begin 45 = .ok (.putfield 59, 3) := by decide +kernel
theorem dX8_begin_48 : decode cX8_begin 48 = .ok (.aload_n 1, 1) := by decide +kernel
theorem dX8_begin_49 : decode cX8_begin 49 = .ok (.getfield 62, 3) := by decide +kernel
theorem dX8_begin_52 : decode cX8_begin 52 = .ok (.iconst 0, 1) := by decide +kernel
theorem dX8_begin_53 : decode cX8_begin 53 = .ok (.aload_n 0, 1) := by decide +kernel
theorem dX8_begin_54 : decode cX8_begin 54 = .ok (.getfield 9, 3) := by decide +kernel
theorem dX8_begin_57 : decode cX8_begin 57 = .ok (.iconst 0, 1) := by decide +kernel
theorem dX8_begin_58 : decode cX8_begin 58 = .ok (.bipush 14, 2) := by decide +kernel
theorem dX8_begin_60 : decode cX8_begin 60 = .ok (.invokestatic 63, 3) := by decide +kernel
theorem dX8_begin_63 : decode cX8_begin 63 = .ok (.aload_n 0, 1) := by decide +kernel
theorem dX8_begin_64 : decode cX8_begin 64 = .ok (.getfield 15, 3) := by decide +kernel
theorem dX8_begin_67 : decode cX8_begin 67 = .ok (.iconst 0, 1) := by decide +kernel
theorem dX8_begin_68 : decode cX8_begin 68 = .ok (.invokestatic 69, 3) := by decide +kernel
theorem dX8_begin_71 : decode cX8_begin 71 = .ok (.aload_n 0, 1) := by decide +kernel
theorem dX8_begin_72 : decode cX8_begin 72 = .ok (.getfield 18, 3) := by decide +kernel
theorem dX8_begin_75 : decode cX8_begin 75 = .ok (.iconst 0, 1) := by decide +kernel
theorem dX8_begin_76 : decode cX8_begin 76 = .ok (.invokestatic 69, 3) := by decide +kernel
theorem dX8_begin_79 : decode cX8_begin 79 = .ok (.aload_n 0, 1) := by decide +kernel
theorem dX8_begin_80 : decode cX8_begin 80 = .ok (.getfield 21, 3) := by decide +kernel
theorem dX8_begin_83 : decode cX8_begin 83 = .ok (.iconst 0, 1) := by decide +kernel
theorem dX8_begin_84 : decode cX8_begin 84 = .ok (.invokestatic 69, 3) := by decide +kernel
theorem dX8_begin_87 : decode cX8_begin 87 = .ok (.aload_n 0, 1) := by decide +kernel
theorem dX8_begin_88 : decode cX8_begin 88 = .ok (.getfield 24, 3) := by decide +kernel
theorem dX8_begin_91 : decode cX8_begin 91 = .ok (.iconst 0, 1) := by decide +kernel
theorem dX8_begin_92 : decode cX8_begin 92 = .ok (.invokestatic 69, 3) := by decide +kernel
theorem dX8_begin_95 : decode cX8_begin 95 = .ok (.aload_n 0, 1) := by decide +kernel
theorem dX8_begin_96 : decode cX8_begin 96 = .ok (.getfield 27, 3) := by decide +kernel
theorem dX8_begin_99 : decode cX8_begin 99 = .ok (.iconst 0, 1) := by decide +kernel
theorem dX8_begin_100 : decode cX8_begin 100 = .ok (.invokestatic 69, 3) := by decide +kernel
theorem dX8_begin_103 : decode cX8_begin 103 = .ok (.return_, 1) := by decide +kernel
theorem dX8_copyFrom_0 : decode cX8_copyFrom 0 = .ok (.aload_n 0, 1) := by decide +kernel
theorem dX8_copyFrom_1 : decode cX8_copyFrom 1 = .ok (.aload_n 1, 1) := by decide +kernel
theorem dX8_copyFrom_2 : decode cX8_copyFrom 2 = .ok (.getfield 36, 3) := by decide +kernel
theorem dX8_copyFrom_5 : decode cX8_copyFrom 5 = .ok (.putfield 36, 3) := by decide +kernel
theorem dX8_copyFrom_8 : decode cX8_copyFrom 8 = .ok (.aload_n 0, 1) := by decide +kernel
theorem dX8_copyFrom_9 : decode cX8_copyFrom 9 = .ok (.aload_n 1, 1) := by decide +kernel
theorem dX8_copyFrom_10 : decode cX8_copyFrom 10 = .ok (.getfield 37, 3) := by decide +kernel
theorem dX8_copyFrom_13 : decode cX8_copyFrom 13 = .ok (.putfield 37, 3) := by decide +kernel
theorem dX8_copyFrom_16 : decode cX8_copyFrom 16 = .ok (.aload_n 0, 1) := by decide +kernel
theorem dX8_copyFrom_17 : decode cX8_copyFrom 17 = .ok (.aload_n 1, 1) := by decide +kernel
theorem dX8_copyFrom_18 : decode cX8_copyFrom 18 = .ok (.getfield 40, 3) := by decide +kernel
theorem dX8_copyFrom_21 : decode cX8_copyFrom 21 = .ok (.putfield 40, 3) := by decide +kernel
theorem dX8_copyFrom_24 : decode cX8_copyFrom 24 = .ok (.aload_n 0, 1) := by decide +kernel
theorem dX8_copyFrom_25 : decode cX8_copyFrom 25 = .ok (.aload_n 1, 1) := by decide +kernel
theorem dX8_copyFrom_26 : decode cX8_copyFrom 26 = .ok (.getfield 43, 3) := by decide +kernel
theorem dX8_copyFrom_29 : decode cX8_copyFrom 29 = .ok (.putfield 43, 3) := by decide +kernel
theorem dX8_copyFrom_32 : decode cX8_copyFrom 32 = .ok (.aload_n 0, 1) := by decide +kernel
theorem dX8_copyFrom_33 : decode cX8_copyFrom 33 = .ok (.aload_n 1, 1) := by decide +kernel
theorem dX8_copyFrom_34 : decode cX8_copyFrom 34 = .ok (.getfield 46, 3) := by decide +kernel
theorem dX8_copyFrom_37 : decode cX8_copyFrom 37 = .ok (.putfield 46, 3) := by decide +kernel
theorem dX8_copyFrom_40 : decode cX8_copyFrom 40 = .ok (.aload_n 0, 1) := by decide +kernel
theorem dX8_copyFrom_41 : decode cX8_copyFrom 41 = .ok (.aload_n 1, 1) := by decide +kernel
theorem dX8_copyFrom_42 : decode cX8_copyFrom 42 = .ok (.getfield 49, 3) := by decide +kernel
theorem dX8_copyFrom_45 : decode cX8_copyFrom 45 = .ok (.putfield 49, 3) := by decide +kernel
theorem dX8_copyFrom_48 : decode cX8_copyFrom 48 = .ok (.aload_n 0, 1) := by decide +kernel
theorem dX8_copyFrom_49 : decode cX8_copyFrom 49 = .ok (.aload_n 1, 1) := by decide +kernel
theorem dX8_copyFrom_50 : decode cX8_copyFrom 50 = .ok (.getfield 53, 3) := by decide +kernel
theorem dX8_copyFrom_53 : decode cX8_copyFrom 53 = .ok (.putfield 53, 3) := by decide +kernel
theorem dX8_copyFrom_56 : decode cX8_copyFrom 56 = .ok (.aload_n 0, 1) := by decide +kernel
theorem dX8_copyFrom_57 : decode cX8_copyFrom 57 = .ok (.aload_n 1, 1) := by decide +kernel
theorem dX8_copyFrom_58 : decode cX8_copyFrom 58 = .ok (.getfield 56, 3) := by decide +kernel
theorem dX8_copyFrom_61 : decode cX8_copyFrom 61 = .ok (.putfield 56, 3) := by decide +kernel
theorem dX8_copyFrom_64 : decode cX8_copyFrom 64 = .ok (.aload_n 0, 1) := by decide +kernel
theorem dX8_copyFrom_65 : decode cX8_copyFrom 65 = .ok (.aload_n 1, 1) := by decide +kernel
theorem dX8_copyFrom_66 : decode cX8_copyFrom 66 = .ok (.getfield 59, 3) := by decide +kernel
theorem dX8_copyFrom_69 : decode cX8_copyFrom 69 = .ok (.putfield 59, 3) := by decide +kernel
theorem dX8_copyFrom_72 : decode cX8_copyFrom 72 = .ok (.aload_n 1, 1) := by decide +kernel
theorem dX8_copyFrom_73 : decode cX8_copyFrom 73 = .ok (.getfield 9, 3) := by decide +kernel
theorem dX8_copyFrom_76 : decode cX8_copyFrom 76 = .ok (.iconst 0, 1) := by decide +kernel
theorem dX8_copyFrom_77 : decode cX8_copyFrom 77 = .ok (.aload_n 0, 1) := by decide +kernel
theorem dX8_copyFrom_78 : decode cX8_copyFrom 78 = .ok (.getfield 9, 3) := by decide +kernel
theorem dX8_copyFrom_81 : decode cX8_copyFrom 81 = .ok (.iconst 0, 1) := by decide +kernel
theorem dX8_copyFrom_82 : decode cX8_copyFrom 82 = .ok (.bipush 14, 2) := by decide +kernel
theorem dX8_copyFrom_84 : decode cX8_copyFrom 84 = .ok (.invokestatic 63, 3) := by decide +kernel
theorem dX8_copyFrom_87 : decode cX8_copyFrom 87 = .ok (.aload_n 1, 1) := by decide +kernel
theorem dX8_copyFrom_88 : decode cX8_copyFrom 88 = .ok (.getfield 15, 3) := by decide +kernel
theorem dX8_copyFrom_91 : decode cX8_copyFrom 91 = .ok (.iconst 0, 1) := by decide +kernel
theorem dX8_copyFrom_92 : decode cX8_copyFrom 92 = .ok (.aload_n 0, 1) := by decide +kernel
theorem dX8_copyFrom_93 : decode cX8_copyFrom 93 = .ok (.getfield 15, 3) := by decide +kernel
theorem dX8_copyFrom_96 : decode cX8_copyFrom 96 = .ok (.iconst 0, 1) := by decide +kernel
theorem dX8_copyFrom_97 : decode cX8_copyFrom 97 = .ok (.bipush 14, 2) := by decide +kernel
theorem dX8_copyFrom_99 : decode cX8_copyFrom 99 = .ok (.invokestatic 63, 3) := by decide +kernel
theorem dX8_copyFrom_102 : decode cX8_copyFrom 102 = .ok (.aload_n 1, 1) := by decide +kernel
theorem dX8_copyFrom_103 : decode cX8_copyFrom 103 = .ok (.getfield 18, 3) := by decide +kernel
theorem dX8_copyFrom_106 : decode cX8_copyFrom 106 = .ok (.iconst 0, 1) := by decide +kernel
theorem dX8_copyFrom_107 : decode cX8_copyFrom 107 = .ok (.aload_n 0, 1) := by decide +kernel
theorem dX8_copyFrom_108 : decode cX8_copyFrom 108 = .ok (.getfield 18, 3) := by decide +kernel
theorem dX8_copyFrom_111 : decode cX8_copyFrom 111 = .ok (.iconst 0, 1) := by decide +kernel
theorem dX8_copyFrom_112 : decode cX8_copyFrom 112 = .ok (.bipush 14, 2) := by decide +kernel
theorem dX8_copyFrom_114 : decode cX8_copyFrom 114 = .ok (.invokestatic 63, 3) := by decide +kernel
theorem dX8_copyFrom_117 : decode cX8_copyFrom 117 = .ok (.aload_n 1, 1) := by decide +kernel
theorem dX8_copyFrom_118 : decode cX8_copyFrom 118 = .ok (.getfield 21, 3) := by decide +kernel
theorem dX8_copyFrom_121 : decode cX8_copyFrom 121 = .ok (.iconst 0, 1) := by decide +kernel
theorem dX8_copyFrom_122 : decode cX8_copyFrom 122 = .ok (.aload_n 0, 1) := by decide +kernel
theorem dX8_copyFrom_123 : decode cX8_copyFrom 123 = .ok (.getfield 21, 3) := by decide +kernel
theorem dX8_copyFrom_126 : decode cX8_copyFrom 126 = .ok (.iconst 0, 1) := by decide +kernel
theorem dX8_copyFrom_127 : decode cX8_copyFrom 127 = .ok (.bipush 14, 2) := by decide +kernel
theorem dX8_copyFrom_129 : decode cX8_copyFrom 129 = .ok (.invokestatic 63, 3) := by decide +kernel
theorem dX8_copyFrom_132 : decode cX8_copyFrom 132 = .ok (.aload_n 1, 1) := by decide +kernel
theorem dX8_copyFrom_133 : decode cX8_copyFrom 133 = .ok (.getfield 24, 3) := by decide +kernel
theorem dX8_copyFrom_136 : decode cX8_copyFrom 136 = .ok (.iconst 0, 1) := by decide +kernel
theorem dX8_copyFrom_137 : decode cX8_copyFrom 137 = .ok (.aload_n 0, 1) := by decide +kernel
theorem dX8_copyFrom_138 : decode cX8_copyFrom 138 = .ok (.getfield 24, 3) := by decide +kernel
theorem dX8_copyFrom_141 : decode cX8_copyFrom 141 = .ok (.iconst 0, 1) := by decide +kernel
theorem dX8_copyFrom_142 : decode cX8_copyFrom 142 = .ok (.bipush 14, 2) := by decide +kernel
theorem dX8_copyFrom_144 : decode cX8_copyFrom 144 = .ok (.invokestatic 63, 3) := by decide +kernel
theorem dX8_copyFrom_147 : decode cX8_copyFrom 147 = .ok (.aload_n 1, 1) := by decide +kernel
theorem dX8_copyFrom_148 : decode cX8_copyFrom 148 = .ok (.getfield 27, 3) := by decide +kernel
theorem dX8_copyFrom_151 : decode cX8_copyFrom 151 = .ok (.iconst 0, 1) := by decide +kernel
theorem dX8_copyFrom_152 : decode cX8_copyFrom 152 = .ok (.aload_n 0, 1) := by decide +kernel
theorem dX8_copyFrom_153 : decode cX8_copyFrom 153 = .ok (.getfield 27, 3) := by decide +kernel
theorem dX8_copyFrom_156 : decode cX8_copyFrom 156 = .ok (.iconst 0, 1) := by decide +kernel
theorem dX8_copyFrom_157 : decode cX8_copyFrom 157 = .ok (.bipush 14, 2) := by decide +kernel
theorem dX8_copyFrom_159 : decode cX8_copyFrom 159 = .ok (.invokestatic 63, 3) := by decide +kernel
theorem dX8_copyFrom_162 : decode cX8_copyFrom 162 = .ok (.return_, 1) := by decide +kernel
set_option maxRecDepth 20000 in
theorem ggX8_statusOf_X11_contains : GoodIn wsX8_statusOf wsX11_contains := goodIn_r _ [6] rfl (by decide +kernel)
set_option maxRecDepth 20000 in
theorem gX8_statusOf_X11_contains_n75 : GoodIn wsX8_statusOf (wsX11_contains) := ggX8_statusOf_X11_contains
theorem dX8_statusOf_0 : decode cX8_statusOf 0 = .ok (.aload_n 0, 1) := by decide +kernel
theorem dX8_statusOf_1 : decode cX8_statusOf 1 = .ok (.getfield 53, 3) := by decide +kernel
theorem dX8_statusOf_4 : decode cX8_statusOf 4 = .ok (.iload_n 1, 1) := by decide +kernel
theorem dX8_statusOf_5 : decode cX8_statusOf 5 = .ok (.invokestatic 75, 3) := by decide +kernel
theorem dX8_statusOf_8 : decode cX8_statusOf 8 = .ok (.ifCond .eq 5, 3) := by decide +kernel
theorem dX8_statusOf_11 : decode cX8_statusOf 11 = .ok (.iconst 1, 1) := by decide +kernel
theorem dX8_statusOf_12 : decode cX8_statusOf 12 = .ok (.ireturn, 1) := by decide +kernel
theorem dX8_statusOf_13 : decode cX8_statusOf 13 = .ok (.aload_n 0, 1) := by decide +kernel
theorem dX8_statusOf_14 : decode cX8_statusOf 14 = .ok (.getfield 56, 3) := by decide +kernel
theorem dX8_statusOf_17 : decode cX8_statusOf 17 = .ok (.iload_n 1, 1) := by decide +kernel
theorem dX8_statusOf_18 : decode cX8_statusOf 18 = .ok (.invokestatic 75, 3) := by decide +kernel
theorem dX8_statusOf_21 : decode cX8_statusOf 21 = .ok (.ifCond .eq 5, 3) := by decide +kernel
theorem dX8_statusOf_24 : decode cX8_statusOf 24 = .ok (.iconst 2, 1) := by decide +kernel
theorem dX8_statusOf_25 : decode cX8_statusOf 25 = .ok (.ireturn, 1) := by decide +kernel
theorem dX8_statusOf_26 : decode cX8_statusOf 26 = .ok (.aload_n 0, 1) := by decide +kernel
theorem dX8_statusOf_27 : decode cX8_statusOf 27 = .ok (.getfield 59, 3) := by decide +kernel
theorem dX8_statusOf_30 : decode cX8_statusOf 30 = .ok (.iload_n 1, 1) := by decide +kernel
theorem dX8_statusOf_31 : decode cX8_statusOf 31 = .ok (.invokestatic 75, 3) := by decide +kernel
theorem dX8_statusOf_34 : decode cX8_statusOf 34 = .ok (.ifCond .eq 7, 3) := by decide +kernel
theorem dX8_statusOf_37 : decode cX8_statusOf 37 = .ok (.iconst 3, 1) := by decide +kernel
theorem dX8_statusOf_38 : decode cX8_statusOf 38 = .ok (.goto 4, 3) := by decide +kernel
theorem dX8_statusOf_41 : decode cX8_statusOf 41 = .ok (.iconst 0, 1) := by decide +kernel
theorem dX8_statusOf_42 : decode cX8_statusOf 42 = .ok (.ireturn, 1) := by decide +kernel
theorem dX8_start_0 : decode cX8_start 0 = .ok (.aload_n 0, 1) := by decide +kernel
theorem dX8_start_1 : decode cX8_start 1 = .ok (.dup, 1) := by decide +kernel
theorem dX8_start_2 : decode cX8_start 2 = .ok (.getfield 59, 3) := by decide +kernel
theorem dX8_start_5 : decode cX8_start 5 = .ok (.iconst 1, 1) := by decide +kernel
theorem dX8_start_6 : decode cX8_start 6 = .ok (.iload_n 1, 1) := by decide +kernel
theorem dX8_start_7 : decode cX8_start 7 = .ok (.ishl, 1) := by decide +kernel
theorem dX8_start_8 : decode cX8_start 8 = .ok (.iconst (-1), 1) := by decide +kernel
theorem dX8_start_9 : decode cX8_start 9 = .ok (.ixor, 1) := by decide +kernel
theorem dX8_start_10 : decode cX8_start 10 = .ok (.iand, 1) := by decide +kernel
theorem dX8_start_11 : decode cX8_start 11 = .ok (.putfield 59, 3) := by decide +kernel
theorem dX8_start_14 : decode cX8_start 14 = .ok (.aload_n 0, 1) := by decide +kernel
theorem dX8_start_15 : decode cX8_start 15 = .ok (.dup, 1) := by decide +kernel
theorem dX8_start_16 : decode cX8_start 16 = .ok (.getfield 53, 3) := by decide +kernel
theorem dX8_start_19 : decode cX8_start 19 = .ok (.iconst 1, 1) := by decide +kernel
theorem dX8_start_20 : decode cX8_start 20 = .ok (.iload_n 1, 1) := by decide +kernel
theorem dX8_start_21 : decode cX8_start 21 = .ok (.ishl, 1) := by decide +kernel
theorem dX8_start_22 : decode cX8_start 22 = .ok (.ior, 1) := by decide +kernel
theorem dX8_start_23 : decode cX8_start 23 = .ok (.putfield 53, 3) := by decide +kernel
theorem dX8_start_26 : decode cX8_start 26 = .ok (.aload_n 0, 1) := by decide +kernel
theorem dX8_start_27 : decode cX8_start 27 = .ok (.getfield 15, 3) := by decide +kernel
theorem dX8_start_30 : decode cX8_start 30 = .ok (.iload_n 1, 1) := by decide +kernel
theorem dX8_start_31 : decode cX8_start 31 = .ok (.aload_n 0, 1) := by decide +kernel
theorem dX8_start_32 : decode cX8_start 32 = .ok (.getfield 9, 3) := by decide +kernel
theorem dX8_start_35 : decode cX8_start 35 = .ok (.iload_n 1, 1) := by decide +kernel
theorem dX8_start_36 : decode cX8_start 36 = .ok (.iaload, 1) := by decide +kernel
theorem dX8_start_37 : decode cX8_start 37 = .ok (.iastore, 1) := by decide +kernel
theorem dX8_start_38 : decode cX8_start 38 = .ok (.aload_n 0, 1) := by decide +kernel
theorem dX8_start_39 : decode cX8_start 39 = .ok (.getfield 21, 3) := by decide +kernel
theorem dX8_start_42 : decode cX8_start 42 = .ok (.iload_n 1, 1) := by decide +kernel
theorem dX8_start_43 : decode cX8_start 43 = .ok (.dup2, 1) := by decide +kernel
theorem dX8_start_44 : decode cX8_start 44 = .ok (.iaload, 1) := by decide +kernel
theorem dX8_start_45 : decode cX8_start 45 = .ok (.iconst 1, 1) := by decide +kernel
theorem dX8_start_46 : decode cX8_start 46 = .ok (.iadd, 1) := by decide +kernel
theorem dX8_start_47 : decode cX8_start 47 = .ok (.iastore, 1) := by decide +kernel
theorem dX8_start_48 : decode cX8_start 48 = .ok (.return_, 1) := by decide +kernel
theorem dX8_complete_0 : decode cX8_complete 0 = .ok (.aload_n 0, 1) := by decide +kernel
theorem dX8_complete_1 : decode cX8_complete 1 = .ok (.dup, 1) := by decide +kernel
theorem dX8_complete_2 : decode cX8_complete 2 = .ok (.getfield 53, 3) := by decide +kernel
theorem dX8_complete_5 : decode cX8_complete 5 = .ok (.iconst 1, 1) := by decide +kernel
theorem dX8_complete_6 : decode cX8_complete 6 = .ok (.iload_n 1, 1) := by decide +kernel
theorem dX8_complete_7 : decode cX8_complete 7 = .ok (.ishl, 1) := by decide +kernel
theorem dX8_complete_8 : decode cX8_complete 8 = .ok (.iconst (-1), 1) := by decide +kernel
theorem dX8_complete_9 : decode cX8_complete 9 = .ok (.ixor, 1) := by decide +kernel
theorem dX8_complete_10 : decode cX8_complete 10 = .ok (.iand, 1) := by decide +kernel
theorem dX8_complete_11 : decode cX8_complete 11 = .ok (.putfield 53, 3) := by decide +kernel
theorem dX8_complete_14 : decode cX8_complete 14 = .ok (.aload_n 0, 1) := by decide +kernel
theorem dX8_complete_15 : decode cX8_complete 15 = .ok (.dup, 1) := by decide +kernel
theorem dX8_complete_16 : decode cX8_complete 16 = .ok (.getfield 56, 3) := by decide +kernel
theorem dX8_complete_19 : decode cX8_complete 19 = .ok (.iconst 1, 1) := by decide +kernel
theorem dX8_complete_20 : decode cX8_complete 20 = .ok (.iload_n 1, 1) := by decide +kernel
theorem dX8_complete_21 : decode cX8_complete 21 = .ok (.ishl, 1) := by decide +kernel
theorem dX8_complete_22 : decode cX8_complete 22 = .ok (.ior, 1) := by decide +kernel
theorem dX8_complete_23 : decode cX8_complete 23 = .ok (.putfield 56, 3) := by decide +kernel
theorem dX8_complete_26 : decode cX8_complete 26 = .ok (.aload_n 0, 1) := by decide +kernel
theorem dX8_complete_27 : decode cX8_complete 27 = .ok (.getfield 24, 3) := by decide +kernel
theorem dX8_complete_30 : decode cX8_complete 30 = .ok (.iload_n 1, 1) := by decide +kernel
theorem dX8_complete_31 : decode cX8_complete 31 = .ok (.dup2, 1) := by decide +kernel
theorem dX8_complete_32 : decode cX8_complete 32 = .ok (.iaload, 1) := by decide +kernel
theorem dX8_complete_33 : decode cX8_complete 33 = .ok (.iconst 1, 1) := by decide +kernel
theorem dX8_complete_34 : decode cX8_complete 34 = .ok (.iadd, 1) := by decide +kernel
theorem dX8_complete_35 : decode cX8_complete 35 = .ok (.iastore, 1) := by decide +kernel
theorem dX8_complete_36 : decode cX8_complete 36 = .ok (.return_, 1) := by decide +kernel
theorem dX8_burn_0 : decode cX8_burn 0 = .ok (.aload_n 0, 1) := by decide +kernel
theorem dX8_burn_1 : decode cX8_burn 1 = .ok (.dup, 1) := by decide +kernel
theorem dX8_burn_2 : decode cX8_burn 2 = .ok (.getfield 56, 3) := by decide +kernel
theorem dX8_burn_5 : decode cX8_burn 5 = .ok (.iconst 1, 1) := by decide +kernel
theorem dX8_burn_6 : decode cX8_burn 6 = .ok (.iload_n 1, 1) := by decide +kernel
theorem dX8_burn_7 : decode cX8_burn 7 = .ok (.ishl, 1) := by decide +kernel
theorem dX8_burn_8 : decode cX8_burn 8 = .ok (.iconst (-1), 1) := by decide +kernel
theorem dX8_burn_9 : decode cX8_burn 9 = .ok (.ixor, 1) := by decide +kernel
theorem dX8_burn_10 : decode cX8_burn 10 = .ok (.iand, 1) := by decide +kernel
theorem dX8_burn_11 : decode cX8_burn 11 = .ok (.putfield 56, 3) := by decide +kernel
theorem dX8_burn_14 : decode cX8_burn 14 = .ok (.aload_n 0, 1) := by decide +kernel
theorem dX8_burn_15 : decode cX8_burn 15 = .ok (.dup, 1) := by decide +kernel
theorem dX8_burn_16 : decode cX8_burn 16 = .ok (.getfield 59, 3) := by decide +kernel
theorem dX8_burn_19 : decode cX8_burn 19 = .ok (.iconst 1, 1) := by decide +kernel
theorem dX8_burn_20 : decode cX8_burn 20 = .ok (.iload_n 1, 1) := by decide +kernel
theorem dX8_burn_21 : decode cX8_burn 21 = .ok (.ishl, 1) := by decide +kernel
theorem dX8_burn_22 : decode cX8_burn 22 = .ok (.ior, 1) := by decide +kernel
theorem dX8_burn_23 : decode cX8_burn 23 = .ok (.putfield 59, 3) := by decide +kernel
theorem dX8_burn_26 : decode cX8_burn 26 = .ok (.aload_n 0, 1) := by decide +kernel
theorem dX8_burn_27 : decode cX8_burn 27 = .ok (.getfield 18, 3) := by decide +kernel
theorem dX8_burn_30 : decode cX8_burn 30 = .ok (.iload_n 1, 1) := by decide +kernel
theorem dX8_burn_31 : decode cX8_burn 31 = .ok (.iconst 0, 1) := by decide +kernel
theorem dX8_burn_32 : decode cX8_burn 32 = .ok (.iastore, 1) := by decide +kernel
theorem dX8_burn_33 : decode cX8_burn 33 = .ok (.aload_n 0, 1) := by decide +kernel
theorem dX8_burn_34 : decode cX8_burn 34 = .ok (.getfield 27, 3) := by decide +kernel
theorem dX8_burn_37 : decode cX8_burn 37 = .ok (.iload_n 1, 1) := by decide +kernel
theorem dX8_burn_38 : decode cX8_burn 38 = .ok (.dup2, 1) := by decide +kernel
theorem dX8_burn_39 : decode cX8_burn 39 = .ok (.iaload, 1) := by decide +kernel
theorem dX8_burn_40 : decode cX8_burn 40 = .ok (.iconst 1, 1) := by decide +kernel
theorem dX8_burn_41 : decode cX8_burn 41 = .ok (.iadd, 1) := by decide +kernel
theorem dX8_burn_42 : decode cX8_burn 42 = .ok (.iastore, 1) := by decide +kernel
theorem dX8_burn_43 : decode cX8_burn 43 = .ok (.return_, 1) := by decide +kernel
theorem dX8_halt_0 : decode cX8_halt 0 = .ok (.aload_n 0, 1) := by decide +kernel
theorem dX8_halt_1 : decode cX8_halt 1 = .ok (.getfield 15, 3) := by decide +kernel
theorem dX8_halt_4 : decode cX8_halt 4 = .ok (.iload_n 1, 1) := by decide +kernel
theorem dX8_halt_5 : decode cX8_halt 5 = .ok (.iaload, 1) := by decide +kernel
theorem dX8_halt_6 : decode cX8_halt 6 = .ok (.istore_n 2, 1) := by decide +kernel
theorem dX8_halt_7 : decode cX8_halt 7 = .ok (.aload_n 0, 1) := by decide +kernel
theorem dX8_halt_8 : decode cX8_halt 8 = .ok (.dup, 1) := by decide +kernel
theorem dX8_halt_9 : decode cX8_halt 9 = .ok (.getfield 53, 3) := by decide +kernel
theorem dX8_halt_12 : decode cX8_halt 12 = .ok (.iconst 1, 1) := by decide +kernel
theorem dX8_halt_13 : decode cX8_halt 13 = .ok (.iload_n 1, 1) := by decide +kernel
theorem dX8_halt_14 : decode cX8_halt 14 = .ok (.ishl, 1) := by decide +kernel
theorem dX8_halt_15 : decode cX8_halt 15 = .ok (.iconst (-1), 1) := by decide +kernel
theorem dX8_halt_16 : decode cX8_halt 16 = .ok (.ixor, 1) := by decide +kernel
theorem dX8_halt_17 : decode cX8_halt 17 = .ok (.iand, 1) := by decide +kernel
theorem dX8_halt_18 : decode cX8_halt 18 = .ok (.putfield 53, 3) := by decide +kernel
theorem dX8_halt_21 : decode cX8_halt 21 = .ok (.aload_n 0, 1) := by decide +kernel
theorem dX8_halt_22 : decode cX8_halt 22 = .ok (.getfield 15, 3) := by decide +kernel
theorem dX8_halt_25 : decode cX8_halt 25 = .ok (.iload_n 1, 1) := by decide +kernel
theorem dX8_halt_26 : decode cX8_halt 26 = .ok (.iconst 0, 1) := by decide +kernel
theorem dX8_halt_27 : decode cX8_halt 27 = .ok (.iastore, 1) := by decide +kernel
theorem dX8_halt_28 : decode cX8_halt 28 = .ok (.aload_n 0, 1) := by decide +kernel
theorem dX8_halt_29 : decode cX8_halt 29 = .ok (.dup, 1) := by decide +kernel
theorem dX8_halt_30 : decode cX8_halt 30 = .ok (.getfield 46, 3) := by decide +kernel
theorem dX8_halt_33 : decode cX8_halt 33 = .ok (.iconst 1, 1) := by decide +kernel
theorem dX8_halt_34 : decode cX8_halt 34 = .ok (.iadd, 1) := by decide +kernel
theorem dX8_halt_35 : decode cX8_halt 35 = .ok (.putfield 46, 3) := by decide +kernel
theorem dX8_halt_38 : decode cX8_halt 38 = .ok (.iload_n 2, 1) := by decide +kernel
theorem dX8_halt_39 : decode cX8_halt 39 = .ok (.ireturn, 1) := by decide +kernel
theorem dX8_discard_0 : decode cX8_discard 0 = .ok (.aload_n 0, 1) := by decide +kernel
theorem dX8_discard_1 : decode cX8_discard 1 = .ok (.getfield 18, 3) := by decide +kernel
theorem dX8_discard_4 : decode cX8_discard 4 = .ok (.iload_n 1, 1) := by decide +kernel
theorem dX8_discard_5 : decode cX8_discard 5 = .ok (.iaload, 1) := by decide +kernel
theorem dX8_discard_6 : decode cX8_discard 6 = .ok (.istore_n 2, 1) := by decide +kernel
theorem dX8_discard_7 : decode cX8_discard 7 = .ok (.aload_n 0, 1) := by decide +kernel
theorem dX8_discard_8 : decode cX8_discard 8 = .ok (.dup, 1) := by decide +kernel
theorem dX8_discard_9 : decode cX8_discard 9 = .ok (.getfield 56, 3) := by decide +kernel
theorem dX8_discard_12 : decode cX8_discard 12 = .ok (.iconst 1, 1) := by decide +kernel
theorem dX8_discard_13 : decode cX8_discard 13 = .ok (.iload_n 1, 1) := by decide +kernel
theorem dX8_discard_14 : decode cX8_discard 14 = .ok (.ishl, 1) := by decide +kernel
theorem dX8_discard_15 : decode cX8_discard 15 = .ok (.iconst (-1), 1) := by decide +kernel
theorem dX8_discard_16 : decode cX8_discard 16 = .ok (.ixor, 1) := by decide +kernel
theorem dX8_discard_17 : decode cX8_discard 17 = .ok (.iand, 1) := by decide +kernel
theorem dX8_discard_18 : decode cX8_discard 18 = .ok (.putfield 56, 3) := by decide +kernel
theorem dX8_discard_21 : decode cX8_discard 21 = .ok (.aload_n 0, 1) := by decide +kernel
theorem dX8_discard_22 : decode cX8_discard 22 = .ok (.getfield 18, 3) := by decide +kernel
theorem dX8_discard_25 : decode cX8_discard 25 = .ok (.iload_n 1, 1) := by decide +kernel
theorem dX8_discard_26 : decode cX8_discard 26 = .ok (.iconst 0, 1) := by decide +kernel
theorem dX8_discard_27 : decode cX8_discard 27 = .ok (.iastore, 1) := by decide +kernel
theorem dX8_discard_28 : decode cX8_discard 28 = .ok (.iload_n 2, 1) := by decide +kernel
theorem dX8_discard_29 : decode cX8_discard 29 = .ok (.ireturn, 1) := by decide +kernel
theorem dX9_init_0 : decode cX9_init 0 = .ok (.aload_n 0, 1) := by decide +kernel
theorem dX9_init_1 : decode cX9_init 1 = .ok (.invokespecial 1, 3) := by decide +kernel
theorem dX9_init_4 : decode cX9_init 4 = .ok (.aload_n 0, 1) := by decide +kernel
theorem dX9_init_5 : decode cX9_init 5 = .ok (.iload_n 1, 1) := by decide +kernel
theorem dX9_init_6 : decode cX9_init 6 = .ok (.newarray .byte, 2) := by decide +kernel
theorem dX9_init_8 : decode cX9_init 8 = .ok (.putfield 7, 3) := by decide +kernel
theorem dX9_init_11 : decode cX9_init 11 = .ok (.return_, 1) := by decide +kernel
theorem dX9_addByte_0 : decode cX9_addByte 0 = .ok (.aload_n 0, 1) := by decide +kernel
theorem dX9_addByte_1 : decode cX9_addByte 1 = .ok (.getfield 13, 3) := by decide +kernel
theorem dX9_addByte_4 : decode cX9_addByte 4 = .ok (.aload_n 0, 1) := by decide +kernel
theorem dX9_addByte_5 : decode cX9_addByte 5 = .ok (.getfield 7, 3) := by decide +kernel
theorem dX9_addByte_8 : decode cX9_addByte 8 = .ok (.arraylength, 1) := by decide +kernel
theorem dX9_addByte_9 : decode cX9_addByte 9 = .ok (.if_icmp .ge 24, 3) := by decide +kernel
theorem dX9_addByte_12 : decode cX9_addByte 12 = .ok (.aload_n 0, 1) := by decide +kernel
theorem dX9_addByte_13 : decode cX9_addByte 13 = .ok (.getfield 7, 3) := by decide +kernel
theorem dX9_addByte_16 : decode cX9_addByte 16 = .ok (.aload_n 0, 1) := by decide +kernel
theorem dX9_addByte_17 : decode cX9_addByte 17 = .ok (.getfield 13, 3) := by decide +kernel
theorem dX9_addByte_20 : decode cX9_addByte 20 = .ok (.iload_n 1, 1) := by decide +kernel
theorem dX9_addByte_21 : decode cX9_addByte 21 = .ok (.i2b, 1) := by decide +kernel
theorem dX9_addByte_22 : decode cX9_addByte 22 = .ok (.bastore, 1) := by decide +kernel
theorem dX9_addByte_23 : decode cX9_addByte 23 = .ok (.aload_n 0, 1) := by decide +kernel
theorem dX9_addByte_24 : decode cX9_addByte 24 = .ok (.dup, 1) := by decide +kernel
theorem dX9_addByte_25 : decode cX9_addByte 25 = .ok (.getfield 13, 3) := by decide +kernel
theorem dX9_addByte_28 : decode cX9_addByte 28 = .ok (.iconst 1, 1) := by decide +kernel
theorem dX9_addByte_29 : decode cX9_addByte 29 = .ok (.iadd, 1) := by decide +kernel
theorem dX9_addByte_30 : decode cX9_addByte 30 = .ok (.putfield 13, 3) := by decide +kernel
theorem dX9_addByte_33 : decode cX9_addByte 33 = .ok (.return_, 1) := by decide +kernel
set_option maxRecDepth 20000 in
theorem ggX9_addFourBytes_X9_addByte : GoodIn wsX9_addFourBytes wsX9_addByte := goodIn_r _ [5, 6, 7, 8, 9] rfl (by decide +kernel)
set_option maxRecDepth 20000 in
theorem gX9_addFourBytes_X9_addByte : GoodIn wsX9_addFourBytes (wsV RX9 17 RX9 yX9_addByte wsX9_addByte) := goodIn_app (goodIn_of _ (by decide +kernel)) ggX9_addFourBytes_X9_addByte
theorem dX9_addFourBytes_0 : decode cX9_addFourBytes 0 = .ok (.aload_n 0, 1) := by decide +kernel
theorem dX9_addFourBytes_1 : decode cX9_addFourBytes 1 = .ok (.iload_n 1, 1) := by decide +kernel
theorem dX9_addFourBytes_2 : decode cX9_addFourBytes 2 = .ok (.bipush 24, 2) := by decide +kernel
theorem dX9_addFourBytes_4 : decode cX9_addFourBytes 4 = .ok (.iushr, 1) := by decide +kernel
theorem dX9_addFourBytes_5 : decode cX9_addFourBytes 5 = .ok (.invokevirtual 17, 3) := by decide +kernel
theorem dX9_addFourBytes_8 : decode cX9_addFourBytes 8 = .ok (.aload_n 0, 1) := by decide +kernel
theorem dX9_addFourBytes_9 : decode cX9_addFourBytes 9 = .ok (.iload_n 1, 1) := by decide +kernel
theorem dX9_addFourBytes_10 : decode cX9_addFourBytes 10 = .ok (.bipush 16, 2) := by decide +kernel
theorem dX9_addFourBytes_12 : decode cX9_addFourBytes 12 = .ok (.iushr, 1) := by decide +kernel
theorem dX9_addFourBytes_13 : decode cX9_addFourBytes 13 = .ok (.invokevirtual 17, 3) := by decide +kernel
theorem dX9_addFourBytes_16 : decode cX9_addFourBytes 16 = .ok (.aload_n 0, 1) := by decide +kernel
theorem dX9_addFourBytes_17 : decode cX9_addFourBytes 17 = .ok (.iload_n 1, 1) := by decide +kernel
theorem dX9_addFourBytes_18 : decode cX9_addFourBytes 18 = .ok (.bipush 8, 2) := by decide +kernel
theorem dX9_addFourBytes_20 : decode cX9_addFourBytes 20 = .ok (.iushr, 1) := by decide +kernel
theorem dX9_addFourBytes_21 : decode cX9_addFourBytes 21 = .ok (.invokevirtual 17, 3) := by decide +kernel
theorem dX9_addFourBytes_24 : decode cX9_addFourBytes 24 = .ok (.aload_n 0, 1) := by decide +kernel
theorem dX9_addFourBytes_25 : decode cX9_addFourBytes 25 = .ok (.iload_n 1, 1) := by decide +kernel
theorem dX9_addFourBytes_26 : decode cX9_addFourBytes 26 = .ok (.invokevirtual 17, 3) := by decide +kernel
theorem dX9_addFourBytes_29 : decode cX9_addFourBytes 29 = .ok (.return_, 1) := by decide +kernel
set_option maxRecDepth 20000 in
theorem ggX9_addString_J0_length_8abf5 : GoodIn wsX9_addString wsJ0_length_8abf5 := goodIn_r _ [5, 6, 7, 8, 9, 4, 10, 11, 12, 57, 58, 59, 60] rfl (by decide +kernel)
set_option maxRecDepth 20000 in
theorem gX9_addString_J0_length_8abf5 : GoodIn wsX9_addString (wsV RX9 21 RJ0 yJ0_length_8abf5 wsJ0_length_8abf5) := goodIn_app (goodIn_of _ (by decide +kernel)) ggX9_addString_J0_length_8abf5
set_option maxRecDepth 20000 in
theorem ggX9_addString_J0_charAt_5068e : GoodIn wsX9_addString wsJ0_charAt_5068e := goodIn_r _ [16, 6, 17, 18, 19, 4, 20, 11, 12, 21, 22, 23, 24, 25, 26, 27, 28, 29, 30, 31, 32, 33, 34, 35, 36, 37, 38, 39, 40, 41, 42, 43, 44, 45, 46, 47, 48, 49, 57, 58, 59, 60] rfl (by decide +kernel)
set_option maxRecDepth 20000 in
theorem gX9_addString_J0_charAt_5068e : GoodIn wsX9_addString (wsV RX9 26 RJ0 yJ0_charAt_5068e wsJ0_charAt_5068e) := goodIn_app (goodIn_of _ (by decide +kernel)) ggX9_addString_J0_charAt_5068e
set_option maxRecDepth 20000 in
theorem ggX9_addString_X9_addByte : GoodIn wsX9_addString wsX9_addByte := goodIn_r _ [54, 55, 56, 61, 62] rfl (by decide +kernel)
set_option maxRecDepth 20000 in
theorem gX9_addString_X9_addByte : GoodIn wsX9_addString (wsV RX9 17 RX9 yX9_addByte wsX9_addByte) := goodIn_app (goodIn_of _ (by decide +kernel)) ggX9_addString_X9_addByte
theorem dX9_addString_0 : decode cX9_addString 0 = .ok (.iconst 0, 1) := by decide +kernel
theorem dX9_addString_1 : decode cX9_addString 1 = .ok (.istore_n 2, 1) := by decide +kernel
theorem dX9_addString_2 : decode cX9_addString 2 = .ok (.iload_n 2, 1) := by decide +kernel
theorem dX9_addString_3 : decode cX9_addString 3 = .ok (.aload_n 1, 1) := by decide +kernel
theorem dX9_addString_4 : decode cX9_addString 4 = .ok (.invokevirtual 21, 3) := by decide +kernel
theorem dX9_addString_7 : decode cX9_addString 7 = .ok (.if_icmp .ge 18, 3) := by decide +kernel
theorem dX9_addString_10 : decode cX9_addString 10 = .ok (.aload_n 0, 1) := by decide +kernel
theorem dX9_addString_11 : decode cX9_addString 11 = .ok (.aload_n 1, 1) := by decide +kernel
theorem dX9_addString_12 : decode cX9_addString 12 = .ok (.iload_n 2, 1) := by decide +kernel
theorem dX9_addString_13 : decode cX9_addString 13 = .ok (.invokevirtual 26, 3) := by decide +kernel
theorem dX9_addString_16 : decode cX9_addString 16 = .ok (.invokevirtual 17, 3) := by decide +kernel
theorem dX9_addString_19 : decode cX9_addString 19 = .ok (.iinc 2 1, 3) := by decide +kernel
theorem dX9_addString_22 : decode cX9_addString 22 = .ok (.goto (-20), 3) := by decide +kernel
theorem dX9_addString_25 : decode cX9_addString 25 = .ok (.return_, 1) := by decide +kernel
theorem dX10_init_0 : decode cX10_init 0 = .ok (.aload_n 0, 1) := by decide +kernel
theorem dX10_init_1 : decode cX10_init 1 = .ok (.invokespecial 3, 3) := by decide +kernel
theorem dX10_init_4 : decode cX10_init 4 = .ok (.aload_n 0, 1) := by decide +kernel
theorem dX10_init_5 : decode cX10_init 5 = .ok (.aload_n 1, 1) := by decide +kernel
theorem dX10_init_6 : decode cX10_init 6 = .ok (.putfield 9, 3) := by decide +kernel
theorem dX10_init_9 : decode cX10_init 9 = .ok (.aload_n 0, 1) := by decide +kernel
theorem dX10_init_10 : decode cX10_init 10 = .ok (.iconst (-1), 1) := by decide +kernel
theorem dX10_init_11 : decode cX10_init 11 = .ok (.putfield 15, 3) := by decide +kernel
theorem dX10_init_14 : decode cX10_init 14 = .ok (.return_, 1) := by decide +kernel
set_option maxRecDepth 20000 in
theorem ggX10_begin_X10_advance : GoodIn wsX10_begin wsX10_advance := goodIn_r _ [8, 3, 9, 10, 11, 12, 13, 7, 14, 15, 16, 17, 18, 19, 20, 21, 22, 23, 24, 25, 26, 27, 28, 29] rfl (by decide +kernel)
set_option maxRecDepth 20000 in
theorem gX10_begin_X10_advance : GoodIn wsX10_begin (wsV RX10 25 RX10 yX10_advance wsX10_advance) := goodIn_app (goodIn_of _ (by decide +kernel)) ggX10_begin_X10_advance
theorem dX10_begin_0 : decode cX10_begin 0 = .ok (.aload_n 0, 1) := by decide +kernel
theorem dX10_begin_1 : decode cX10_begin 1 = .ok (.iconst 0, 1) := by decide +kernel
theorem dX10_begin_2 : decode cX10_begin 2 = .ok (.putfield 19, 3) := by decide +kernel
theorem dX10_begin_5 : decode cX10_begin 5 = .ok (.aload_n 0, 1) := by decide +kernel
theorem dX10_begin_6 : decode cX10_begin 6 = .ok (.iconst (-1), 1) := by decide +kernel
theorem dX10_begin_7 : decode cX10_begin 7 = .ok (.putfield 15, 3) := by decide +kernel
theorem dX10_begin_10 : decode cX10_begin 10 = .ok (.aload_n 0, 1) := by decide +kernel
theorem dX10_begin_11 : decode cX10_begin 11 = .ok (.iconst 0, 1) := by decide +kernel
theorem dX10_begin_12 : decode cX10_begin 12 = .ok (.putfield 22, 3) := by decide +kernel
theorem dX10_begin_15 : decode cX10_begin 15 = .ok (.aload_n 0, 1) := by decide +kernel
theorem dX10_begin_16 : decode cX10_begin 16 = .ok (.invokevirtual 25, 3) := by decide +kernel
theorem dX10_begin_19 : decode cX10_begin 19 = .ok (.return_, 1) := by decide +kernel
set_option maxRecDepth 20000 in
theorem ggX10_advance_X10_isGap : GoodIn wsX10_advance wsX10_isGap := goodIn_r _ [8] rfl (by decide +kernel)
set_option maxRecDepth 20000 in
theorem gX10_advance_X10_isGap : GoodIn wsX10_advance (va_wsS RX10 40 yX10_isGap wsX10_isGap) := goodIn_app (goodIn_of _ (by decide +kernel)) ggX10_advance_X10_isGap
set_option maxRecDepth 20000 in
theorem ggX10_advance_X11_isWithin : GoodIn wsX10_advance wsX11_isWithin := goodIn_r _ [11] rfl (by decide +kernel)
set_option maxRecDepth 20000 in
theorem gX10_advance_X11_isWithin_n47 : GoodIn wsX10_advance (wsX11_isWithin) := ggX10_advance_X11_isWithin
set_option maxRecDepth 20000 in
theorem ggX10_advance_X10_passRun : GoodIn wsX10_advance wsX10_passRun := goodIn_r _ [15, 1, 3, 16, 17, 18, 19, 20, 21, 22, 23] rfl (by decide +kernel)
set_option maxRecDepth 20000 in
theorem gX10_advance_X10_passRun : GoodIn wsX10_advance (wsV RX10 51 RX10 yX10_passRun wsX10_passRun) := goodIn_app (goodIn_of _ (by decide +kernel)) ggX10_advance_X10_passRun
theorem dX10_advance_0 : decode cX10_advance 0 = .ok (.aload_n 0, 1) := by decide +kernel
theorem dX10_advance_1 : decode cX10_advance 1 = .ok (.aload_n 0, 1) := by decide +kernel
theorem dX10_advance_2 : decode cX10_advance 2 = .ok (.getfield 22, 3) := by decide +kernel
theorem dX10_advance_5 : decode cX10_advance 5 = .ok (.putfield 28, 3) := by decide +kernel
theorem dX10_advance_8 : decode cX10_advance 8 = .ok (.aload_n 0, 1) := by decide +kernel
theorem dX10_advance_9 : decode cX10_advance 9 = .ok (.getfield 28, 3) := by decide +kernel
theorem dX10_advance_12 : decode cX10_advance 12 = .ok (.aload_n 0, 1) := by decide +kernel
theorem dX10_advance_13 : decode cX10_advance 13 = .ok (.getfield 9, 3) := by decide +kernel
theorem dX10_advance_16 : decode cX10_advance 16 = .ok (.getfield 31, 3) := by decide +kernel
theorem dX10_advance_19 : decode cX10_advance 19 = .ok (.if_icmp .ge 34, 3) := by decide +kernel
theorem dX10_advance_22 : decode cX10_advance 22 = .ok (.aload_n 0, 1) := by decide +kernel
theorem dX10_advance_23 : decode cX10_advance 23 = .ok (.getfield 9, 3) := by decide +kernel
theorem dX10_advance_26 : decode cX10_advance 26 = .ok (.getfield 36, 3) := by decide +kernel
theorem dX10_advance_29 : decode cX10_advance 29 = .ok (.aload_n 0, 1) := by decide +kernel
theorem dX10_advance_30 : decode cX10_advance 30 = .ok (.getfield 28, 3) := by decide +kernel
theorem dX10_advance_33 : decode cX10_advance 33 = .ok (.baload, 1) := by decide +kernel
theorem dX10_advance_34 : decode cX10_advance 34 = .ok (.invokestatic 40, 3) := by decide +kernel
theorem dX10_advance_37 : decode cX10_advance 37 = .ok (.ifCond .eq 16, 3) := by decide +kernel
theorem dX10_advance_40 : decode cX10_advance 40 = .ok (.aload_n 0, 1) := by decide +kernel
theorem dX10_advance_41 : decode cX10_advance 41 = .ok (.dup, 1) := by decide +kernel
theorem dX10_advance_42 : decode cX10_advance 42 = .ok (.getfield 28, 3) := by decide +kernel
theorem dX10_advance_45 : decode cX10_advance 45 = .ok (.iconst 1, 1) := by decide +kernel
theorem dX10_advance_46 : decode cX10_advance 46 = .ok (.iadd, 1) := by decide +kernel
theorem dX10_advance_47 : decode cX10_advance 47 = .ok (.putfield 28, 3) := by decide +kernel
theorem dX10_advance_50 : decode cX10_advance 50 = .ok (.goto (-42), 3) := by decide +kernel
theorem dX10_advance_53 : decode cX10_advance 53 = .ok (.aload_n 0, 1) := by decide +kernel
theorem dX10_advance_54 : decode cX10_advance 54 = .ok (.aload_n 0, 1) := by decide +kernel
theorem dX10_advance_55 : decode cX10_advance 55 = .ok (.getfield 28, 3) := by decide +kernel
theorem dX10_advance_58 : decode cX10_advance 58 = .ok (.putfield 22, 3) := by decide +kernel
theorem dX10_advance_61 : decode cX10_advance 61 = .ok (.aload_n 0, 1) := by decide +kernel
theorem dX10_advance_62 : decode cX10_advance 62 = .ok (.getfield 28, 3) := by decide +kernel
theorem dX10_advance_65 : decode cX10_advance 65 = .ok (.aload_n 0, 1) := by decide +kernel
theorem dX10_advance_66 : decode cX10_advance 66 = .ok (.getfield 9, 3) := by decide +kernel
theorem dX10_advance_69 : decode cX10_advance 69 = .ok (.getfield 31, 3) := by decide +kernel
theorem dX10_advance_72 : decode cX10_advance 72 = .ok (.if_icmp .lt 11, 3) := by decide +kernel
theorem dX10_advance_75 : decode cX10_advance 75 = .ok (.aload_n 0, 1) := by decide +kernel
theorem dX10_advance_76 : decode cX10_advance 76 = .ok (.iconst 0, 1) := by decide +kernel
theorem dX10_advance_77 : decode cX10_advance 77 = .ok (.putfield 44, 3) := by decide +kernel
theorem dX10_advance_80 : decode cX10_advance 80 = .ok (.goto 150, 3) := by decide +kernel
theorem dX10_advance_83 : decode cX10_advance 83 = .ok (.aload_n 0, 1) := by decide +kernel
theorem dX10_advance_84 : decode cX10_advance 84 = .ok (.getfield 9, 3) := by decide +kernel
theorem dX10_advance_87 : decode cX10_advance 87 = .ok (.getfield 36, 3) := by decide +kernel
theorem dX10_advance_90 : decode cX10_advance 90 = .ok (.aload_n 0, 1) := by decide +kernel
theorem dX10_advance_91 : decode cX10_advance 91 = .ok (.getfield 28, 3) := by decide +kernel
theorem dX10_advance_94 : decode cX10_advance 94 = .ok (.baload, 1) := by decide +kernel
theorem dX10_advance_95 : decode cX10_advance 95 = .ok (.bipush 97, 2) := by decide +kernel
theorem dX10_advance_97 : decode cX10_advance 97 = .ok (.bipush 122, 2) := by decide +kernel
theorem dX10_advance_99 : decode cX10_advance 99 = .ok (.invokestatic 47, 3) := by decide +kernel
theorem dX10_advance_102 : decode cX10_advance 102 = .ok (.ifCond .eq 37, 3) := by decide +kernel
theorem dX10_advance_105 : decode cX10_advance 105 = .ok (.aload_n 0, 1) := by decide +kernel
theorem dX10_advance_106 : decode cX10_advance 106 = .ok (.bipush 97, 2) := by decide +kernel
theorem dX10_advance_108 : decode cX10_advance 108 = .ok (.bipush 122, 2) := by decide +kernel
theorem dX10_advance_110 : decode cX10_advance 110 = .ok (.invokevirtual 51, 3) := by decide +kernel
theorem dX10_advance_113 : decode cX10_advance 113 = .ok (.aload_n 0, 1) := by decide +kernel
theorem dX10_advance_114 : decode cX10_advance 114 = .ok (.aload_n 0, 1) := by decide +kernel
theorem dX10_advance_115 : decode cX10_advance 115 = .ok (.getfield 22, 3) := by decide +kernel
theorem dX10_advance_118 : decode cX10_advance 118 = .ok (.aload_n 0, 1) := by decide +kernel
theorem dX10_advance_119 : decode cX10_advance 119 = .ok (.getfield 28, 3) := by decide +kernel
theorem dX10_advance_122 : decode cX10_advance 122 = .ok (.isub, 1) := by decide +kernel
theorem dX10_advance_123 : decode cX10_advance 123 = .ok (.bipush 8, 2) := by decide +kernel
theorem dX10_advance_125 : decode cX10_advance 125 = .ok (.if_icmp .gt 7, 3) := by decide +kernel
theorem dX10_advance_128 : decode cX10_advance 128 = .ok (.iconst 1, 1) := by decide +kernel
theorem dX10_advance_129 : decode cX10_advance 129 = .ok (.goto 4, 3) := by decide +kernel
theorem dX10_advance_132 : decode cX10_advance 132 = .ok (.iconst 4, 1) := by decide +kernel
theorem dX10_advance_133 : decode cX10_advance 133 = .ok (.putfield 44, 3) := by decide +kernel
theorem dX10_advance_136 : decode cX10_advance 136 = .ok (.goto 94, 3) := by decide +kernel
theorem dX10_advance_139 : decode cX10_advance 139 = .ok (.aload_n 0, 1) := by decide +kernel
theorem dX10_advance_140 : decode cX10_advance 140 = .ok (.getfield 9, 3) := by decide +kernel
theorem dX10_advance_143 : decode cX10_advance 143 = .ok (.getfield 36, 3) := by decide +kernel
theorem dX10_advance_146 : decode cX10_advance 146 = .ok (.aload_n 0, 1) := by decide +kernel
theorem dX10_advance_147 : decode cX10_advance 147 = .ok (.getfield 28, 3) := by decide +kernel
theorem dX10_advance_150 : decode cX10_advance 150 = .ok (.baload, 1) := by decide +kernel
theorem dX10_advance_151 : decode cX10_advance 151 = .ok (.bipush 48, 2) := by decide +kernel
theorem dX10_advance_153 : decode cX10_advance 153 = .ok (.bipush 57, 2) := by decide +kernel
theorem dX10_advance_155 : decode cX10_advance 155 = .ok (.invokestatic 47, 3) := by decide +kernel
theorem dX10_advance_158 : decode cX10_advance 158 = .ok (.ifCond .eq 36, 3) := by decide +kernel
theorem dX10_advance_161 : decode cX10_advance 161 = .ok (.aload_n 0, 1) := by decide +kernel
theorem dX10_advance_162 : decode cX10_advance 162 = .ok (.bipush 48, 2) := by decide +kernel
theorem dX10_advance_164 : decode cX10_advance 164 = .ok (.bipush 57, 2) := by decide +kernel
theorem dX10_advance_166 : decode cX10_advance 166 = .ok (.invokevirtual 51, 3) := by decide +kernel
theorem dX10_advance_169 : decode cX10_advance 169 = .ok (.aload_n 0, 1) := by decide +kernel
theorem dX10_advance_170 : decode cX10_advance 170 = .ok (.aload_n 0, 1) := by decide +kernel
theorem dX10_advance_171 : decode cX10_advance 171 = .ok (.getfield 22, 3) := by decide +kernel
theorem dX10_advance_174 : decode cX10_advance 174 = .ok (.aload_n 0, 1) := by decide +kernel
theorem dX10_advance_175 : decode cX10_advance 175 = .ok (.getfield 28, 3) := by decide +kernel
theorem dX10_advance_178 : decode cX10_advance 178 = .ok (.isub, 1) := by decide +kernel
theorem dX10_advance_179 : decode cX10_advance 179 = .ok (.iconst 3, 1) := by decide +kernel
theorem dX10_advance_180 : decode cX10_advance 180 = .ok (.if_icmp .gt 7, 3) := by decide +kernel
theorem dX10_advance_183 : decode cX10_advance 183 = .ok (.iconst 2, 1) := by decide +kernel
theorem dX10_advance_184 : decode cX10_advance 184 = .ok (.goto 4, 3) := by decide +kernel
theorem dX10_advance_187 : decode cX10_advance 187 = .ok (.iconst 4, 1) := by decide +kernel
theorem dX10_advance_188 : decode cX10_advance 188 = .ok (.putfield 44, 3) := by decide +kernel
theorem dX10_advance_191 : decode cX10_advance 191 = .ok (.goto 39, 3) := by decide +kernel
theorem dX10_advance_194 : decode cX10_advance 194 = .ok (.aload_n 0, 1) := by decide +kernel
theorem dX10_advance_195 : decode cX10_advance 195 = .ok (.aload_n 0, 1) := by decide +kernel
theorem dX10_advance_196 : decode cX10_advance 196 = .ok (.getfield 9, 3) := by decide +kernel
theorem dX10_advance_199 : decode cX10_advance 199 = .ok (.getfield 36, 3) := by decide +kernel
theorem dX10_advance_202 : decode cX10_advance 202 = .ok (.aload_n 0, 1) := by decide +kernel
theorem dX10_advance_203 : decode cX10_advance 203 = .ok (.getfield 28, 3) := by decide +kernel
theorem dX10_advance_206 : decode cX10_advance 206 = .ok (.baload, 1) := by decide +kernel
theorem dX10_advance_207 : decode cX10_advance 207 = .ok (.bipush 59, 2) := by decide +kernel
theorem dX10_advance_209 : decode cX10_advance 209 = .ok (.if_icmp .ne 7, 3) := by decide +kernel
theorem dX10_advance_212 : decode cX10_advance 212 = .ok (.iconst 3, 1) := by decide +kernel
theorem dX10_advance_213 : decode cX10_advance 213 = .ok (.goto 4, 3) := by decide +kernel
theorem dX10_advance_216 : decode cX10_advance 216 = .ok (.iconst 4, 1) := by decide +kernel
theorem dX10_advance_217 : decode cX10_advance 217 = .ok (.putfield 44, 3) := by decide +kernel
theorem dX10_advance_220 : decode cX10_advance 220 = .ok (.aload_n 0, 1) := by decide +kernel
theorem dX10_advance_221 : decode cX10_advance 221 = .ok (.aload_n 0, 1) := by decide +kernel
theorem dX10_advance_222 : decode cX10_advance 222 = .ok (.getfield 28, 3) := by decide +kernel
theorem dX10_advance_225 : decode cX10_advance 225 = .ok (.iconst 1, 1) := by decide +kernel
theorem dX10_advance_226 : decode cX10_advance 226 = .ok (.iadd, 1) := by decide +kernel
theorem dX10_advance_227 : decode cX10_advance 227 = .ok (.putfield 22, 3) := by decide +kernel
theorem dX10_advance_230 : decode cX10_advance 230 = .ok (.return_, 1) := by decide +kernel
theorem dX10_passRun_0 : decode cX10_passRun 0 = .ok (.aload_n 0, 1) := by decide +kernel
theorem dX10_passRun_1 : decode cX10_passRun 1 = .ok (.getfield 22, 3) := by decide +kernel
theorem dX10_passRun_4 : decode cX10_passRun 4 = .ok (.aload_n 0, 1) := by decide +kernel
theorem dX10_passRun_5 : decode cX10_passRun 5 = .ok (.getfield 9, 3) := by decide +kernel
theorem dX10_passRun_8 : decode cX10_passRun 8 = .ok (.getfield 31, 3) := by decide +kernel
theorem dX10_passRun_11 : decode cX10_passRun 11 = .ok (.if_icmp .ge 48, 3) := by decide +kernel
theorem dX10_passRun_14 : decode cX10_passRun 14 = .ok (.iload_n 1, 1) := by decide +kernel
theorem dX10_passRun_15 : decode cX10_passRun 15 = .ok (.aload_n 0, 1) := by decide +kernel
theorem dX10_passRun_16 : decode cX10_passRun 16 = .ok (.getfield 9, 3) := by decide +kernel
theorem dX10_passRun_19 : decode cX10_passRun 19 = .ok (.getfield 36, 3) := by decide +kernel
theorem dX10_passRun_22 : decode cX10_passRun 22 = .ok (.aload_n 0, 1) := by decide +kernel
theorem dX10_passRun_23 : decode cX10_passRun 23 = .ok (.getfield 22, 3) := by decide +kernel
theorem dX10_passRun_26 : decode cX10_passRun 26 = .ok (.baload, 1) := by decide +kernel
theorem dX10_passRun_27 : decode cX10_passRun 27 = .ok (.if_icmp .gt 32, 3) := by decide +kernel
theorem dX10_passRun_30 : decode cX10_passRun 30 = .ok (.aload_n 0, 1) := by decide +kernel
theorem dX10_passRun_31 : decode cX10_passRun 31 = .ok (.getfield 9, 3) := by decide +kernel
theorem dX10_passRun_34 : decode cX10_passRun 34 = .ok (.getfield 36, 3) := by decide +kernel
theorem dX10_passRun_37 : decode cX10_passRun 37 = .ok (.aload_n 0, 1) := by decide +kernel
theorem dX10_passRun_38 : decode cX10_passRun 38 = .ok (.getfield 22, 3) := by decide +kernel
theorem dX10_passRun_41 : decode cX10_passRun 41 = .ok (.baload, 1) := by decide +kernel
theorem dX10_passRun_42 : decode cX10_passRun 42 = .ok (.iload_n 2, 1) := by decide +kernel
theorem dX10_passRun_43 : decode cX10_passRun 43 = .ok (.if_icmp .gt 16, 3) := by decide +kernel
theorem dX10_passRun_46 : decode cX10_passRun 46 = .ok (.aload_n 0, 1) := by decide +kernel
theorem dX10_passRun_47 : decode cX10_passRun 47 = .ok (.dup, 1) := by decide +kernel
theorem dX10_passRun_48 : decode cX10_passRun 48 = .ok (.getfield 22, 3) := by decide +kernel
theorem dX10_passRun_51 : decode cX10_passRun 51 = .ok (.iconst 1, 1) := by decide +kernel
theorem dX10_passRun_52 : decode cX10_passRun 52 = .ok (.iadd, 1) := by decide +kernel
theorem dX10_passRun_53 : decode cX10_passRun 53 = .ok (.putfield 22, 3) := by decide +kernel
theorem dX10_passRun_56 : decode cX10_passRun 56 = .ok (.goto (-56), 3) := by decide +kernel
theorem dX10_passRun_59 : decode cX10_passRun 59 = .ok (.return_, 1) := by decide +kernel
theorem dX10_fail_0 : decode cX10_fail 0 = .ok (.aload_n 0, 1) := by decide +kernel
theorem dX10_fail_1 : decode cX10_fail 1 = .ok (.getfield 44, 3) := by decide +kernel
theorem dX10_fail_4 : decode cX10_fail 4 = .ok (.iconst 5, 1) := by decide +kernel
theorem dX10_fail_5 : decode cX10_fail 5 = .ok (.if_icmp .eq 21, 3) := by decide +kernel
theorem dX10_fail_8 : decode cX10_fail 8 = .ok (.aload_n 0, 1) := by decide +kernel
theorem dX10_fail_9 : decode cX10_fail 9 = .ok (.iload_n 1, 1) := by decide +kernel
theorem dX10_fail_10 : decode cX10_fail 10 = .ok (.putfield 19, 3) := by decide +kernel
theorem dX10_fail_13 : decode cX10_fail 13 = .ok (.aload_n 0, 1) := by decide +kernel
theorem dX10_fail_14 : decode cX10_fail 14 = .ok (.aload_n 0, 1) := by decide +kernel
theorem dX10_fail_15 : decode cX10_fail 15 = .ok (.getfield 28, 3) := by decide +kernel
theorem dX10_fail_18 : decode cX10_fail 18 = .ok (.putfield 15, 3) := by decide +kernel
theorem dX10_fail_21 : decode cX10_fail 21 = .ok (.aload_n 0, 1) := by decide +kernel
theorem dX10_fail_22 : decode cX10_fail 22 = .ok (.iconst 5, 1) := by decide +kernel
theorem dX10_fail_23 : decode cX10_fail 23 = .ok (.putfield 44, 3) := by decide +kernel
theorem dX10_fail_26 : decode cX10_fail 26 = .ok (.return_, 1) := by decide +kernel
theorem dX10_mayGoOn_0 : decode cX10_mayGoOn 0 = .ok (.aload_n 0, 1) := by decide +kernel
theorem dX10_mayGoOn_1 : decode cX10_mayGoOn 1 = .ok (.getfield 44, 3) := by decide +kernel
theorem dX10_mayGoOn_4 : decode cX10_mayGoOn 4 = .ok (.ifCond .eq 15, 3) := by decide +kernel
theorem dX10_mayGoOn_7 : decode cX10_mayGoOn 7 = .ok (.aload_n 0, 1) := by decide +kernel
theorem dX10_mayGoOn_8 : decode cX10_mayGoOn 8 = .ok (.getfield 44, 3) := by decide +kernel
theorem dX10_mayGoOn_11 : decode cX10_mayGoOn 11 = .ok (.iconst 5, 1) := by decide +kernel
theorem dX10_mayGoOn_12 : decode cX10_mayGoOn 12 = .ok (.if_icmp .eq 7, 3) := by decide +kernel
theorem dX10_mayGoOn_15 : decode cX10_mayGoOn 15 = .ok (.iconst 1, 1) := by decide +kernel
theorem dX10_mayGoOn_16 : decode cX10_mayGoOn 16 = .ok (.goto 4, 3) := by decide +kernel
theorem dX10_mayGoOn_19 : decode cX10_mayGoOn 19 = .ok (.iconst 0, 1) := by decide +kernel
theorem dX10_mayGoOn_20 : decode cX10_mayGoOn 20 = .ok (.ireturn, 1) := by decide +kernel
theorem dX10_isAnyWord_0 : decode cX10_isAnyWord 0 = .ok (.aload_n 0, 1) := by decide +kernel
theorem dX10_isAnyWord_1 : decode cX10_isAnyWord 1 = .ok (.getfield 44, 3) := by decide +kernel
theorem dX10_isAnyWord_4 : decode cX10_isAnyWord 4 = .ok (.iconst 1, 1) := by decide +kernel
theorem dX10_isAnyWord_5 : decode cX10_isAnyWord 5 = .ok (.if_icmp .ne 7, 3) := by decide +kernel
theorem dX10_isAnyWord_8 : decode cX10_isAnyWord 8 = .ok (.iconst 1, 1) := by decide +kernel
theorem dX10_isAnyWord_9 : decode cX10_isAnyWord 9 = .ok (.goto 4, 3) := by decide +kernel
theorem dX10_isAnyWord_12 : decode cX10_isAnyWord 12 = .ok (.iconst 0, 1) := by decide +kernel
theorem dX10_isAnyWord_13 : decode cX10_isAnyWord 13 = .ok (.ireturn, 1) := by decide +kernel
set_option maxRecDepth 20000 in
theorem ggX10_isWord_J0_length_8abf5 : GoodIn wsX10_isWord wsJ0_length_8abf5 := goodIn_r _ [9, 10, 11, 12, 13, 8, 14, 15, 16, 62, 63, 64, 65] rfl (by decide +kernel)
set_option maxRecDepth 20000 in
theorem gX10_isWord_J0_length_8abf5 : GoodIn wsX10_isWord (wsV RX10 55 RJ0 yJ0_length_8abf5 wsJ0_length_8abf5) := goodIn_app (goodIn_of _ (by decide +kernel)) ggX10_isWord_J0_length_8abf5
set_option maxRecDepth 20000 in
theorem ggX10_isWord_J0_charAt_5068e : GoodIn wsX10_isWord wsJ0_charAt_5068e := goodIn_r _ [20, 10, 21, 22, 23, 8, 24, 15, 16, 25, 26, 27, 28, 29, 30, 31, 32, 33, 34, 35, 36, 37, 38, 39, 40, 41, 42, 43, 44, 45, 46, 47, 48, 49, 50, 51, 52, 53, 62, 63, 64, 65] rfl (by decide +kernel)
set_option maxRecDepth 20000 in
theorem gX10_isWord_J0_charAt_5068e : GoodIn wsX10_isWord (wsV RX10 60 RJ0 yJ0_charAt_5068e wsJ0_charAt_5068e) := goodIn_app (goodIn_of _ (by decide +kernel)) ggX10_isWord_J0_charAt_5068e
theorem dX10_isWord_0 : decode cX10_isWord 0 = .ok (.aload_n 0, 1) := by decide +kernel
theorem dX10_isWord_1 : decode cX10_isWord 1 = .ok (.getfield 44, 3) := by decide +kernel
theorem dX10_isWord_4 : decode cX10_isWord 4 = .ok (.iconst 1, 1) := by decide +kernel
theorem dX10_isWord_5 : decode cX10_isWord 5 = .ok (.if_icmp .ne 19, 3) := by decide +kernel
theorem dX10_isWord_8 : decode cX10_isWord 8 = .ok (.aload_n 0, 1) := by decide +kernel
theorem dX10_isWord_9 : decode cX10_isWord 9 = .ok (.getfield 22, 3) := by decide +kernel
theorem dX10_isWord_12 : decode cX10_isWord 12 = .ok (.aload_n 0, 1) := by decide +kernel
theorem dX10_isWord_13 : decode cX10_isWord 13 = .ok (.getfield 28, 3) := by decide +kernel
theorem dX10_isWord_16 : decode cX10_isWord 16 = .ok (.isub, 1) := by decide +kernel
theorem dX10_isWord_17 : decode cX10_isWord 17 = .ok (.aload_n 1, 1) := by decide +kernel
theorem dX10_isWord_18 : decode cX10_isWord 18 = .ok (.invokevirtual 55, 3) := by decide +kernel
theorem dX10_isWord_21 : decode cX10_isWord 21 = .ok (.if_icmp .eq 5, 3) := by decide +kernel
theorem dX10_isWord_24 : decode cX10_isWord 24 = .ok (.iconst 0, 1) := by decide +kernel
theorem dX10_isWord_25 : decode cX10_isWord 25 = .ok (.ireturn, 1) := by decide +kernel
theorem dX10_isWord_26 : decode cX10_isWord 26 = .ok (.iconst 0, 1) := by decide +kernel
theorem dX10_isWord_27 : decode cX10_isWord 27 = .ok (.istore_n 2, 1) := by decide +kernel
theorem dX10_isWord_28 : decode cX10_isWord 28 = .ok (.iload_n 2, 1) := by decide +kernel
theorem dX10_isWord_29 : decode cX10_isWord 29 = .ok (.aload_n 1, 1) := by decide +kernel
theorem dX10_isWord_30 : decode cX10_isWord 30 = .ok (.invokevirtual 55, 3) := by decide +kernel
theorem dX10_isWord_33 : decode cX10_isWord 33 = .ok (.if_icmp .ge 33, 3) := by decide +kernel
theorem dX10_isWord_36 : decode cX10_isWord 36 = .ok (.aload_n 0, 1) := by decide +kernel
theorem dX10_isWord_37 : decode cX10_isWord 37 = .ok (.getfield 9, 3) := by decide +kernel
theorem dX10_isWord_40 : decode cX10_isWord 40 = .ok (.getfield 36, 3) := by decide +kernel
theorem dX10_isWord_43 : decode cX10_isWord 43 = .ok (.aload_n 0, 1) := by decide +kernel
theorem dX10_isWord_44 : decode cX10_isWord 44 = .ok (.getfield 28, 3) := by decide +kernel
theorem dX10_isWord_47 : decode cX10_isWord 47 = .ok (.iload_n 2, 1) := by decide +kernel
theorem dX10_isWord_48 : decode cX10_isWord 48 = .ok (.iadd, 1) := by decide +kernel
theorem dX10_isWord_49 : decode cX10_isWord 49 = .ok (.baload, 1) := by decide +kernel
theorem dX10_isWord_50 : decode cX10_isWord 50 = .ok (.aload_n 1, 1) := by decide +kernel
theorem dX10_isWord_51 : decode cX10_isWord 51 = .ok (.iload_n 2, 1) := by decide +kernel
theorem dX10_isWord_52 : decode cX10_isWord 52 = .ok (.invokevirtual 60, 3) := by decide +kernel
theorem dX10_isWord_55 : decode cX10_isWord 55 = .ok (.if_icmp .eq 5, 3) := by decide +kernel
theorem dX10_isWord_58 : decode cX10_isWord 58 = .ok (.iconst 0, 1) := by decide +kernel
theorem dX10_isWord_59 : decode cX10_isWord 59 = .ok (.ireturn, 1) := by decide +kernel
theorem dX10_isWord_60 : decode cX10_isWord 60 = .ok (.iinc 2 1, 3) := by decide +kernel
theorem dX10_isWord_63 : decode cX10_isWord 63 = .ok (.goto (-35), 3) := by decide +kernel
theorem dX10_isWord_66 : decode cX10_isWord 66 = .ok (.iconst 1, 1) := by decide +kernel
theorem dX10_isWord_67 : decode cX10_isWord 67 = .ok (.ireturn, 1) := by decide +kernel
set_option maxRecDepth 20000 in
theorem ggX10_accept_X10_isWord : GoodIn wsX10_accept wsX10_isWord := goodIn_r _ [5, 6, 7, 8, 9, 10, 11, 12, 13, 14, 15, 16, 17, 18, 19, 20, 21, 22, 23, 24, 25, 26, 27, 28, 29, 30, 31, 32, 33, 34, 35, 36, 37, 38, 39, 40, 41, 42, 43, 44, 45, 46, 47, 48, 49, 50, 51, 52, 53, 54, 55, 56, 57, 58, 73, 74, 75, 76, 77, 78, 79, 80, 81, 82, 83, 84] rfl (by decide +kernel)
set_option maxRecDepth 20000 in
theorem gX10_accept_X10_isWord : GoodIn wsX10_accept (wsV RX10 64 RX10 yX10_isWord wsX10_isWord) := goodIn_app (goodIn_of _ (by decide +kernel)) ggX10_accept_X10_isWord
set_option maxRecDepth 20000 in
theorem ggX10_accept_X10_advance : GoodIn wsX10_accept wsX10_advance := goodIn_r _ [62, 7, 8, 9, 6, 63, 64, 4, 65, 66, 67, 68, 69, 70, 71, 72, 73, 74, 75, 76, 77, 78, 79, 80] rfl (by decide +kernel)
set_option maxRecDepth 20000 in
theorem gX10_accept_X10_advance : GoodIn wsX10_accept (wsV RX10 25 RX10 yX10_advance wsX10_advance) := goodIn_app (goodIn_of _ (by decide +kernel)) ggX10_accept_X10_advance
theorem dX10_accept_0 : decode cX10_accept 0 = .ok (.aload_n 0, 1) := by decide +kernel
theorem dX10_accept_1 : decode cX10_accept 1 = .ok (.aload_n 1, 1) := by decide +kernel
theorem dX10_accept_2 : decode cX10_accept 2 = .ok (.invokevirtual 64, 3) := by decide +kernel
theorem dX10_accept_5 : decode cX10_accept 5 = .ok (.istore_n 2, 1) := by decide +kernel
theorem dX10_accept_6 : decode cX10_accept 6 = .ok (.iload_n 2, 1) := by decide +kernel
theorem dX10_accept_7 : decode cX10_accept 7 = .ok (.ifCond .eq 7, 3) := by decide +kernel
theorem dX10_accept_10 : decode cX10_accept 10 = .ok (.aload_n 0, 1) := by decide +kernel
theorem dX10_accept_11 : decode cX10_accept 11 = .ok (.invokevirtual 25, 3) := by decide +kernel
theorem dX10_accept_14 : decode cX10_accept 14 = .ok (.iload_n 2, 1) := by decide +kernel
theorem dX10_accept_15 : decode cX10_accept 15 = .ok (.ireturn, 1) := by decide +kernel
set_option maxRecDepth 20000 in
theorem ggX10_expectSemicolon_X10_fail : GoodIn wsX10_expectSemicolon wsX10_fail := goodIn_r _ [6, 1, 7, 8, 9, 26, 27, 28, 29, 30, 31] rfl (by decide +kernel)
set_option maxRecDepth 20000 in
theorem gX10_expectSemicolon_X10_fail : GoodIn wsX10_expectSemicolon (wsV RX10 68 RX10 yX10_fail wsX10_fail) := goodIn_app (goodIn_of _ (by decide +kernel)) ggX10_expectSemicolon_X10_fail
set_option maxRecDepth 20000 in
theorem ggX10_expectSemicolon_X10_advance : GoodIn wsX10_expectSemicolon wsX10_advance := goodIn_r _ [13, 14, 8, 15, 1, 16, 17, 5, 18, 19, 20, 21, 22, 23, 24, 25, 26, 27, 28, 29, 30, 31, 32, 33] rfl (by decide +kernel)
set_option maxRecDepth 20000 in
theorem gX10_expectSemicolon_X10_advance : GoodIn wsX10_expectSemicolon (wsV RX10 25 RX10 yX10_advance wsX10_advance) := goodIn_app (goodIn_of _ (by decide +kernel)) ggX10_expectSemicolon_X10_advance
theorem dX10_expectSemicolon_0 : decode cX10_expectSemicolon 0 = .ok (.aload_n 0, 1) := by decide +kernel
theorem dX10_expectSemicolon_1 : decode cX10_expectSemicolon 1 = .ok (.getfield 44, 3) := by decide +kernel
theorem dX10_expectSemicolon_4 : decode cX10_expectSemicolon 4 = .ok (.iconst 3, 1) := by decide +kernel
theorem dX10_expectSemicolon_5 : decode cX10_expectSemicolon 5 = .ok (.if_icmp .eq 9, 3) := by decide +kernel
theorem dX10_expectSemicolon_8 : decode cX10_expectSemicolon 8 = .ok (.aload_n 0, 1) := by decide +kernel
theorem dX10_expectSemicolon_9 : decode cX10_expectSemicolon 9 = .ok (.iconst 1, 1) := by decide +kernel
theorem dX10_expectSemicolon_10 : decode cX10_expectSemicolon 10 = .ok (.invokevirtual 68, 3) := by decide +kernel
theorem dX10_expectSemicolon_13 : decode cX10_expectSemicolon 13 = .ok (.return_, 1) := by decide +kernel
theorem dX10_expectSemicolon_14 : decode cX10_expectSemicolon 14 = .ok (.aload_n 0, 1) := by decide +kernel
theorem dX10_expectSemicolon_15 : decode cX10_expectSemicolon 15 = .ok (.invokevirtual 25, 3) := by decide +kernel
theorem dX10_expectSemicolon_18 : decode cX10_expectSemicolon 18 = .ok (.return_, 1) := by decide +kernel
set_option maxRecDepth 20000 in
theorem ggX10_expectNumber_X10_fail : GoodIn wsX10_expectNumber wsX10_fail := goodIn_r _ [9, 1, 10, 2, 11, 26, 27, 28, 29, 30, 31] rfl (by decide +kernel)
set_option maxRecDepth 20000 in
theorem gX10_expectNumber_X10_fail : GoodIn wsX10_expectNumber (wsV RX10 68 RX10 yX10_fail wsX10_fail) := goodIn_app (goodIn_of _ (by decide +kernel)) ggX10_expectNumber_X10_fail
set_option maxRecDepth 20000 in
theorem ggX10_expectNumber_X11_isWithin : GoodIn wsX10_expectNumber wsX11_isWithin := goodIn_r _ [14] rfl (by decide +kernel)
set_option maxRecDepth 20000 in
theorem gX10_expectNumber_X11_isWithin_n47 : GoodIn wsX10_expectNumber (wsX11_isWithin) := ggX10_expectNumber_X11_isWithin
set_option maxRecDepth 20000 in
theorem ggX10_expectNumber_X10_advance : GoodIn wsX10_expectNumber wsX10_advance := goodIn_r _ [18, 3, 2, 4, 1, 19, 20, 8, 21, 12, 13, 14, 22, 23, 24, 25, 26, 27, 28, 29, 30, 31, 32, 33] rfl (by decide +kernel)
set_option maxRecDepth 20000 in
theorem gX10_expectNumber_X10_advance : GoodIn wsX10_expectNumber (wsV RX10 25 RX10 yX10_advance wsX10_advance) := goodIn_app (goodIn_of _ (by decide +kernel)) ggX10_expectNumber_X10_advance
theorem dX10_expectNumber_0 : decode cX10_expectNumber 0 = .ok (.aload_n 0, 1) := by decide +kernel
theorem dX10_expectNumber_1 : decode cX10_expectNumber 1 = .ok (.getfield 44, 3) := by decide +kernel
theorem dX10_expectNumber_4 : decode cX10_expectNumber 4 = .ok (.iconst 2, 1) := by decide +kernel
theorem dX10_expectNumber_5 : decode cX10_expectNumber 5 = .ok (.if_icmp .eq 10, 3) := by decide +kernel
theorem dX10_expectNumber_8 : decode cX10_expectNumber 8 = .ok (.aload_n 0, 1) := by decide +kernel
theorem dX10_expectNumber_9 : decode cX10_expectNumber 9 = .ok (.iconst 1, 1) := by decide +kernel
theorem dX10_expectNumber_10 : decode cX10_expectNumber 10 = .ok (.invokevirtual 68, 3) := by decide +kernel
theorem dX10_expectNumber_13 : decode cX10_expectNumber 13 = .ok (.iload_n 1, 1) := by decide +kernel
theorem dX10_expectNumber_14 : decode cX10_expectNumber 14 = .ok (.ireturn, 1) := by decide +kernel
theorem dX10_expectNumber_15 : decode cX10_expectNumber 15 = .ok (.iconst 0, 1) := by decide +kernel
theorem dX10_expectNumber_16 : decode cX10_expectNumber 16 = .ok (.istore_n 3, 1) := by decide +kernel
theorem dX10_expectNumber_17 : decode cX10_expectNumber 17 = .ok (.aload_n 0, 1) := by decide +kernel
theorem dX10_expectNumber_18 : decode cX10_expectNumber 18 = .ok (.getfield 28, 3) := by decide +kernel
theorem dX10_expectNumber_21 : decode cX10_expectNumber 21 = .ok (.istore 4, 2) := by decide +kernel
theorem dX10_expectNumber_23 : decode cX10_expectNumber 23 = .ok (.iload 4, 2) := by decide +kernel
theorem dX10_expectNumber_25 : decode cX10_expectNumber 25 = .ok (.aload_n 0, 1) := by decide +kernel
theorem dX10_expectNumber_26 : decode cX10_expectNumber 26 = .ok (.getfield 22, 3) := by decide +kernel
theorem dX10_expectNumber_29 : decode cX10_expectNumber 29 = .ok (.if_icmp .ge 28, 3) := by decide +kernel
theorem dX10_expectNumber_32 : decode cX10_expectNumber 32 = .ok (.iload_n 3, 1) := by decide +kernel
theorem dX10_expectNumber_33 : decode cX10_expectNumber 33 = .ok (.bipush 10, 2) := by decide +kernel
theorem dX10_expectNumber_35 : decode cX10_expectNumber 35 = .ok (.imul, 1) := by decide +kernel
theorem dX10_expectNumber_36 : decode cX10_expectNumber 36 = .ok (.aload_n 0, 1) := by decide +kernel
theorem dX10_expectNumber_37 : decode cX10_expectNumber 37 = .ok (.getfield 9, 3) := by decide +kernel
theorem dX10_expectNumber_40 : decode cX10_expectNumber 40 = .ok (.getfield 36, 3) := by decide +kernel
theorem dX10_expectNumber_43 : decode cX10_expectNumber 43 = .ok (.iload 4, 2) := by decide +kernel
theorem dX10_expectNumber_45 : decode cX10_expectNumber 45 = .ok (.baload, 1) := by decide +kernel
theorem dX10_expectNumber_46 : decode cX10_expectNumber 46 = .ok (.iadd, 1) := by decide +kernel
theorem dX10_expectNumber_47 : decode cX10_expectNumber 47 = .ok (.bipush 48, 2) := by decide +kernel
theorem dX10_expectNumber_49 : decode cX10_expectNumber 49 = .ok (.isub, 1) := by decide +kernel
theorem dX10_expectNumber_50 : decode cX10_expectNumber 50 = .ok (.istore_n 3, 1) := by decide +kernel
theorem dX10_expectNumber_51 : decode cX10_expectNumber 51 = .ok (.iinc 4 1, 3) := by decide +kernel
theorem dX10_expectNumber_54 : decode cX10_expectNumber 54 = .ok (.goto (-31), 3) := by decide +kernel
theorem dX10_expectNumber_57 : decode cX10_expectNumber 57 = .ok (.iload_n 3, 1) := by decide +kernel
theorem dX10_expectNumber_58 : decode cX10_expectNumber 58 = .ok (.iload_n 1, 1) := by decide +kernel
theorem dX10_expectNumber_59 : decode cX10_expectNumber 59 = .ok (.iload_n 2, 1) := by decide +kernel
theorem dX10_expectNumber_60 : decode cX10_expectNumber 60 = .ok (.invokestatic 47, 3) := by decide +kernel
theorem dX10_expectNumber_63 : decode cX10_expectNumber 63 = .ok (.ifCond .ne 10, 3) := by decide +kernel
theorem dX10_expectNumber_66 : decode cX10_expectNumber 66 = .ok (.aload_n 0, 1) := by decide +kernel
theorem dX10_expectNumber_67 : decode cX10_expectNumber 67 = .ok (.iconst 2, 1) := by decide +kernel
theorem dX10_expectNumber_68 : decode cX10_expectNumber 68 = .ok (.invokevirtual 68, 3) := by decide +kernel
theorem dX10_expectNumber_71 : decode cX10_expectNumber 71 = .ok (.iload_n 1, 1) := by decide +kernel
theorem dX10_expectNumber_72 : decode cX10_expectNumber 72 = .ok (.ireturn, 1) := by decide +kernel
theorem dX10_expectNumber_73 : decode cX10_expectNumber 73 = .ok (.aload_n 0, 1) := by decide +kernel
theorem dX10_expectNumber_74 : decode cX10_expectNumber 74 = .ok (.invokevirtual 25, 3) := by decide +kernel
theorem dX10_expectNumber_77 : decode cX10_expectNumber 77 = .ok (.iload_n 3, 1) := by decide +kernel
theorem dX10_expectNumber_78 : decode cX10_expectNumber 78 = .ok (.ireturn, 1) := by decide +kernel
set_option maxRecDepth 20000 in
theorem ggX10_findName_X10_fail : GoodIn wsX10_findName wsX10_fail := goodIn_r _ [9, 1, 10, 3, 11, 24, 25, 26, 27, 28, 29] rfl (by decide +kernel)
set_option maxRecDepth 20000 in
theorem gX10_findName_X10_fail : GoodIn wsX10_findName (wsV RX10 68 RX10 yX10_fail wsX10_fail) := goodIn_app (goodIn_of _ (by decide +kernel)) ggX10_findName_X10_fail
set_option maxRecDepth 20000 in
theorem ggX10_findName_X4_indexOf : GoodIn wsX10_findName wsX4_indexOf := goodIn_r _ [16, 17, 18, 19, 20, 21, 15, 22, 23, 30, 31, 32, 33, 34] rfl (by decide +kernel)
set_option maxRecDepth 20000 in
theorem gX10_findName_X4_indexOf : GoodIn wsX10_findName (wsV RX10 72 RX4 yX4_indexOf wsX4_indexOf) := goodIn_app (goodIn_of _ (by decide +kernel)) ggX10_findName_X4_indexOf
theorem dX10_findName_0 : decode cX10_findName 0 = .ok (.aload_n 0, 1) := by decide +kernel
theorem dX10_findName_1 : decode cX10_findName 1 = .ok (.getfield 44, 3) := by decide +kernel
theorem dX10_findName_4 : decode cX10_findName 4 = .ok (.iconst 1, 1) := by decide +kernel
theorem dX10_findName_5 : decode cX10_findName 5 = .ok (.if_icmp .eq 10, 3) := by decide +kernel
theorem dX10_findName_8 : decode cX10_findName 8 = .ok (.aload_n 0, 1) := by decide +kernel
theorem dX10_findName_9 : decode cX10_findName 9 = .ok (.iconst 1, 1) := by decide +kernel
theorem dX10_findName_10 : decode cX10_findName 10 = .ok (.invokevirtual 68, 3) := by decide +kernel
theorem dX10_findName_13 : decode cX10_findName 13 = .ok (.iconst (-1), 1) := by decide +kernel
theorem dX10_findName_14 : decode cX10_findName 14 = .ok (.ireturn, 1) := by decide +kernel
theorem dX10_findName_15 : decode cX10_findName 15 = .ok (.aload_n 1, 1) := by decide +kernel
theorem dX10_findName_16 : decode cX10_findName 16 = .ok (.aload_n 0, 1) := by decide +kernel
theorem dX10_findName_17 : decode cX10_findName 17 = .ok (.getfield 9, 3) := by decide +kernel
theorem dX10_findName_20 : decode cX10_findName 20 = .ok (.aload_n 0, 1) := by decide +kernel
theorem dX10_findName_21 : decode cX10_findName 21 = .ok (.getfield 28, 3) := by decide +kernel
theorem dX10_findName_24 : decode cX10_findName 24 = .ok (.aload_n 0, 1) := by decide +kernel
theorem dX10_findName_25 : decode cX10_findName 25 = .ok (.getfield 22, 3) := by decide +kernel
theorem dX10_findName_28 : decode cX10_findName 28 = .ok (.invokevirtual 72, 3) := by decide +kernel
theorem dX10_findName_31 : decode cX10_findName 31 = .ok (.istore_n 2, 1) := by decide +kernel
theorem dX10_findName_32 : decode cX10_findName 32 = .ok (.iload_n 2, 1) := by decide +kernel
theorem dX10_findName_33 : decode cX10_findName 33 = .ok (.iconst (-1), 1) := by decide +kernel
theorem dX10_findName_34 : decode cX10_findName 34 = .ok (.if_icmp .ne 8, 3) := by decide +kernel
theorem dX10_findName_37 : decode cX10_findName 37 = .ok (.aload_n 0, 1) := by decide +kernel
theorem dX10_findName_38 : decode cX10_findName 38 = .ok (.iconst 3, 1) := by decide +kernel
theorem dX10_findName_39 : decode cX10_findName 39 = .ok (.invokevirtual 68, 3) := by decide +kernel
theorem dX10_findName_42 : decode cX10_findName 42 = .ok (.iload_n 2, 1) := by decide +kernel
theorem dX10_findName_43 : decode cX10_findName 43 = .ok (.ireturn, 1) := by decide +kernel
set_option maxRecDepth 20000 in
theorem ggX10_expectNewName_X10_fail : GoodIn wsX10_expectNewName wsX10_fail := goodIn_r _ [9, 1, 10, 3, 11, 46, 47, 48, 49, 50, 51] rfl (by decide +kernel)
set_option maxRecDepth 20000 in
theorem gX10_expectNewName_X10_fail : GoodIn wsX10_expectNewName (wsV RX10 68 RX10 yX10_fail wsX10_fail) := goodIn_app (goodIn_of _ (by decide +kernel)) ggX10_expectNewName_X10_fail
set_option maxRecDepth 20000 in
theorem ggX10_expectNewName_X4_indexOf : GoodIn wsX10_expectNewName wsX4_indexOf := goodIn_r _ [16, 17, 18, 19, 20, 21, 15, 22, 23, 52, 53, 54, 55, 56] rfl (by decide +kernel)
set_option maxRecDepth 20000 in
theorem gX10_expectNewName_X4_indexOf : GoodIn wsX10_expectNewName (wsV RX10 72 RX4 yX4_indexOf wsX4_indexOf) := goodIn_app (goodIn_of _ (by decide +kernel)) ggX10_expectNewName_X4_indexOf
set_option maxRecDepth 20000 in
theorem ggX10_expectNewName_X4_prepare : GoodIn wsX10_expectNewName wsX4_prepare := goodIn_r _ [27, 18, 17, 23, 28, 29, 30, 15, 31, 52, 53, 54, 55, 56] rfl (by decide +kernel)
set_option maxRecDepth 20000 in
theorem gX10_expectNewName_X4_prepare : GoodIn wsX10_expectNewName (wsV RX10 78 RX4 yX4_prepare wsX4_prepare) := goodIn_app (goodIn_of _ (by decide +kernel)) ggX10_expectNewName_X4_prepare
set_option maxRecDepth 20000 in
theorem ggX10_expectNewName_X10_advance : GoodIn wsX10_expectNewName wsX10_advance := goodIn_r _ [35, 2, 3, 4, 1, 36, 37, 8, 38, 39, 40, 41, 42, 43, 44, 45, 46, 47, 48, 49, 50, 51, 55, 56] rfl (by decide +kernel)
set_option maxRecDepth 20000 in
theorem gX10_expectNewName_X10_advance : GoodIn wsX10_expectNewName (wsV RX10 25 RX10 yX10_advance wsX10_advance) := goodIn_app (goodIn_of _ (by decide +kernel)) ggX10_expectNewName_X10_advance
theorem dX10_expectNewName_0 : decode cX10_expectNewName 0 = .ok (.aload_n 0, 1) := by decide +kernel
theorem dX10_expectNewName_1 : decode cX10_expectNewName 1 = .ok (.getfield 44, 3) := by decide +kernel
theorem dX10_expectNewName_4 : decode cX10_expectNewName 4 = .ok (.iconst 1, 1) := by decide +kernel
theorem dX10_expectNewName_5 : decode cX10_expectNewName 5 = .ok (.if_icmp .eq 9, 3) := by decide +kernel
theorem dX10_expectNewName_8 : decode cX10_expectNewName 8 = .ok (.aload_n 0, 1) := by decide +kernel
theorem dX10_expectNewName_9 : decode cX10_expectNewName 9 = .ok (.iconst 1, 1) := by decide +kernel
theorem dX10_expectNewName_10 : decode cX10_expectNewName 10 = .ok (.invokevirtual 68, 3) := by decide +kernel
theorem dX10_expectNewName_13 : decode cX10_expectNewName 13 = .ok (.return_, 1) := by decide +kernel
theorem dX10_expectNewName_14 : decode cX10_expectNewName 14 = .ok (.aload_n 0, 1) := by decide +kernel
theorem dX10_expectNewName_15 : decode cX10_expectNewName 15 = .ok (.getfield 22, 3) := by decide +kernel
theorem dX10_expectNewName_18 : decode cX10_expectNewName 18 = .ok (.aload_n 0, 1) := by decide +kernel
theorem dX10_expectNewName_19 : decode cX10_expectNewName 19 = .ok (.getfield 28, 3) := by decide +kernel
theorem dX10_expectNewName_22 : decode cX10_expectNewName 22 = .ok (.isub, 1) := by decide +kernel
theorem dX10_expectNewName_23 : decode cX10_expectNewName 23 = .ok (.bipush 6, 2) := by decide +kernel
theorem dX10_expectNewName_25 : decode cX10_expectNewName 25 = .ok (.if_icmp .gt 23, 3) := by decide +kernel
theorem dX10_expectNewName_28 : decode cX10_expectNewName 28 = .ok (.aload_n 1, 1) := by decide +kernel
theorem dX10_expectNewName_29 : decode cX10_expectNewName 29 = .ok (.aload_n 0, 1) := by decide +kernel
theorem dX10_expectNewName_30 : decode cX10_expectNewName 30 = .ok (.getfield 9, 3) := by decide +kernel
theorem dX10_expectNewName_33 : decode cX10_expectNewName 33 = .ok (.aload_n 0, 1) := by decide +kernel
theorem dX10_expectNewName_34 : decode cX10_expectNewName 34 = .ok (.getfield 28, 3) := by decide +kernel
theorem dX10_expectNewName_37 : decode cX10_expectNewName 37 = .ok (.aload_n 0, 1) := by decide +kernel
theorem dX10_expectNewName_38 : decode cX10_expectNewName 38 = .ok (.getfield 22, 3) := by decide +kernel
theorem dX10_expectNewName_41 : decode cX10_expectNewName 41 = .ok (.invokevirtual 72, 3) := by decide +kernel
theorem dX10_expectNewName_44 : decode cX10_expectNewName 44 = .ok (.iconst (-1), 1) := by decide +kernel
theorem dX10_expectNewName_45 : decode cX10_expectNewName 45 = .ok (.if_icmp .eq 9, 3) := by decide +kernel
theorem dX10_expectNewName_48 : decode cX10_expectNewName 48 = .ok (.aload_n 0, 1) := by decide +kernel
theorem dX10_expectNewName_49 : decode cX10_expectNewName 49 = .ok (.iconst 3, 1) := by decide +kernel
theorem dX10_expectNewName_50 : decode cX10_expectNewName 50 = .ok (.invokevirtual 68, 3) := by decide +kernel
theorem dX10_expectNewName_53 : decode cX10_expectNewName 53 = .ok (.return_, 1) := by decide +kernel
theorem dX10_expectNewName_54 : decode cX10_expectNewName 54 = .ok (.aload_n 1, 1) := by decide +kernel
theorem dX10_expectNewName_55 : decode cX10_expectNewName 55 = .ok (.aload_n 0, 1) := by decide +kernel
theorem dX10_expectNewName_56 : decode cX10_expectNewName 56 = .ok (.getfield 9, 3) := by decide +kernel
theorem dX10_expectNewName_59 : decode cX10_expectNewName 59 = .ok (.aload_n 0, 1) := by decide +kernel
theorem dX10_expectNewName_60 : decode cX10_expectNewName 60 = .ok (.getfield 28, 3) := by decide +kernel
theorem dX10_expectNewName_63 : decode cX10_expectNewName 63 = .ok (.aload_n 0, 1) := by decide +kernel
theorem dX10_expectNewName_64 : decode cX10_expectNewName 64 = .ok (.getfield 22, 3) := by decide +kernel
theorem dX10_expectNewName_67 : decode cX10_expectNewName 67 = .ok (.invokevirtual 78, 3) := by decide +kernel
theorem dX10_expectNewName_70 : decode cX10_expectNewName 70 = .ok (.aload_n 0, 1) := by decide +kernel
theorem dX10_expectNewName_71 : decode cX10_expectNewName 71 = .ok (.invokevirtual 25, 3) := by decide +kernel
theorem dX10_expectNewName_74 : decode cX10_expectNewName 74 = .ok (.return_, 1) := by decide +kernel
theorem dX10_isGap_0 : decode cX10_isGap 0 = .ok (.iload_n 0, 1) := by decide +kernel
theorem dX10_isGap_1 : decode cX10_isGap 1 = .ok (.bipush 32, 2) := by decide +kernel
theorem dX10_isGap_3 : decode cX10_isGap 3 = .ok (.if_icmp .eq 9, 3) := by decide +kernel
theorem dX10_isGap_6 : decode cX10_isGap 6 = .ok (.iload_n 0, 1) := by decide +kernel
theorem dX10_isGap_7 : decode cX10_isGap 7 = .ok (.bipush 10, 2) := by decide +kernel
theorem dX10_isGap_9 : decode cX10_isGap 9 = .ok (.if_icmp .ne 7, 3) := by decide +kernel
theorem dX10_isGap_12 : decode cX10_isGap 12 = .ok (.iconst 1, 1) := by decide +kernel
theorem dX10_isGap_13 : decode cX10_isGap 13 = .ok (.goto 4, 3) := by decide +kernel
theorem dX10_isGap_16 : decode cX10_isGap 16 = .ok (.iconst 0, 1) := by decide +kernel
theorem dX10_isGap_17 : decode cX10_isGap 17 = .ok (.ireturn, 1) := by decide +kernel
set_option maxRecDepth 20000 in
theorem ggX11_init_X9_init : GoodIn wsX11_init wsX9_init := goodIn_r _ [42, 43, 2, 3, 44, 45, 315, 316] rfl (by decide +kernel)
set_option maxRecDepth 20000 in
theorem gX11_init_X9_init : GoodIn wsX11_init (wsX9_init) := ggX11_init_X9_init
set_option maxRecDepth 20000 in
theorem ggX11_init_X10_init : GoodIn wsX11_init wsX10_init := goodIn_r _ [48, 49, 2, 3, 50, 51, 317, 318, 319, 320, 321, 322] rfl (by decide +kernel)
set_option maxRecDepth 20000 in
theorem gX11_init_X10_init : GoodIn wsX11_init (wsX10_init) := ggX11_init_X10_init
set_option maxRecDepth 20000 in
theorem ggX11_init_X7_init : GoodIn wsX11_init wsX7_init := goodIn_r _ [54, 55, 2, 3, 56, 323] rfl (by decide +kernel)
set_option maxRecDepth 20000 in
theorem gX11_init_X7_init : GoodIn wsX11_init (wsX7_init) := ggX11_init_X7_init
set_option maxRecDepth 20000 in
theorem ggX11_init_X5_init : GoodIn wsX11_init wsX5_init := goodIn_r _ [58, 59, 2, 3, 60, 61, 62, 63, 64, 65, 66, 67, 68, 69, 70, 71, 72, 73, 74, 75, 76, 77, 78, 79, 80, 44, 81, 82, 380, 381, 382, 324, 325, 326, 327, 328, 329, 330, 331, 332, 333, 334, 335, 336, 337, 338, 339, 340] rfl (by decide +kernel)
set_option maxRecDepth 20000 in
theorem gX11_init_X5_init_n26 : GoodIn wsX11_init (wsX5_init) := ggX11_init_X5_init
set_option maxRecDepth 20000 in
theorem ggX11_init_X9_addString : GoodIn wsX11_init wsX9_addString := goodIn_r _ [86, 87, 88, 89, 90, 91, 92, 93, 94, 95, 96, 97, 98, 99, 100, 101, 102, 103, 104, 105, 106, 107, 108, 109, 110, 111, 112, 113, 114, 115, 116, 117, 118, 119, 120, 121, 122, 123, 124, 125, 126, 127, 128, 129, 130, 131, 132, 133, 134, 135, 136, 137, 138, 6, 139, 140, 45, 383, 384, 385, 386, 315, 316] rfl (by decide +kernel)
set_option maxRecDepth 20000 in
theorem gX11_init_X9_addString : GoodIn wsX11_init (wsV RX11 29 RX9 yX9_addString wsX9_addString) := goodIn_app (goodIn_of _ (by decide +kernel)) ggX11_init_X9_addString
set_option maxRecDepth 20000 in
theorem ggX11_init_X7_readInto : GoodIn wsX11_init wsX7_readInto := goodIn_r _ [144, 56, 145, 146, 147, 15, 148, 63, 67, 149, 150, 66, 73, 74, 75, 151, 152, 153, 154, 155, 156, 157, 9, 158, 159, 51, 160, 161, 162, 163, 164, 165, 50, 166, 167, 168, 169, 170, 171, 172, 173, 174, 175, 176, 177, 178, 179, 12, 180, 181, 182, 183, 184, 185, 186, 187, 188, 189, 88, 89, 90, 91, 92, 93, 94, 95, 96, 97, 98, 190, 100, 101, 102, 103, 104, 105, 106, 107, 108, 109, 110, 111, 112, 113, 114, 115, 116, 117, 118, 119, 120, 121, 122, 123, 124, 125, 126, 127, 128, 129, 130, 131, 132, 133, 134, 135, 191, 192, 193, 194, 195, 196, 197, 198, 199, 200, 201, 202, 203, 204, 205, 206, 207, 208, 209, 210, 211, 62, 212, 213, 82, 214, 215, 216, 217, 218, 219, 220, 221, 222, 223, 224, 225, 226, 81, 227, 228, 229, 230, 231, 232, 233, 234, 235, 236, 237, 238, 239, 240, 241, 242, 243, 244, 245, 246, 247, 248, 249, 250, 251, 252, 253, 254, 255, 256, 257, 72, 258, 259, 260, 261, 323, 324, 325, 326, 327, 328, 329, 330, 331, 332, 333, 334, 335, 336, 337, 338, 339, 340, 380, 381, 382, 317, 318, 319, 320, 321, 322, 315, 316, 383, 384, 385, 386] rfl (by decide +kernel)
set_option maxRecDepth 20000 in
theorem gX11_init_X7_readInto : GoodIn wsX11_init (wsV RX11 33 RX7 yX7_readInto wsX7_readInto) := goodIn_app (goodIn_of _ (by decide +kernel)) ggX11_init_X7_readInto
set_option maxRecDepth 20000 in
theorem ggX11_init_X6_init : GoodIn wsX11_init wsX6_init := goodIn_r _ [264, 265, 2, 3, 266, 267, 64, 268, 269, 270, 271, 352, 353, 354, 355, 356] rfl (by decide +kernel)
set_option maxRecDepth 20000 in
theorem gX11_init_X6_init : GoodIn wsX11_init (wsX6_init) := ggX11_init_X6_init
set_option maxRecDepth 20000 in
theorem ggX11_init_X3_init : GoodIn wsX11_init wsX3_init := goodIn_r _ [274, 275, 2, 3, 276, 35, 36, 277, 64, 278, 279, 280, 281, 282, 283, 284, 285, 286, 287, 288, 289, 290, 291, 292, 293, 294, 295, 296, 297, 298, 299, 300, 301, 302, 303, 304, 305, 306, 307, 308, 152, 153, 154, 365, 366, 367, 368, 369, 370, 371, 372, 373, 374, 375, 376, 377, 378, 379, 357, 358, 359, 360, 361, 324, 325, 326, 327, 328, 329, 330, 331, 332, 333, 334, 335, 336, 337, 338, 339, 340] rfl (by decide +kernel)
set_option maxRecDepth 20000 in
theorem gX11_init_X3_init : GoodIn wsX11_init (wsX3_init) := ggX11_init_X3_init
set_option maxRecDepth 20000 in
theorem ggX11_init_X2_init : GoodIn wsX11_init wsX2_init := goodIn_r _ [311, 312, 2, 3, 313, 314, 35, 36, 282, 283, 284, 64, 285, 286, 287, 288, 289, 290, 362, 363, 364, 365, 366, 367, 368, 369, 370, 371, 372, 373, 374, 375, 376, 377, 378, 379] rfl (by decide +kernel)
set_option maxRecDepth 20000 in
theorem gX11_init_X2_init : GoodIn wsX11_init (wsX2_init) := ggX11_init_X2_init
set_option maxRecDepth 20000 in
theorem ggX11_init_X8_init : GoodIn wsX11_init wsX8_init := goodIn_r _ [283, 284, 2, 3, 64, 285, 286, 287, 288, 289, 290, 365, 366, 367, 368, 369, 370, 371, 372, 373, 374, 375, 376, 377, 378, 379] rfl (by decide +kernel)
set_option maxRecDepth 20000 in
theorem gX11_init_X8_init_n87 : GoodIn wsX11_init (wsX8_init) := ggX11_init_X8_init
theorem dX11_init_0 : decode cX11_init 0 = .ok (.aload_n 0, 1) := by decide +kernel
theorem dX11_init_1 : decode cX11_init 1 = .ok (.invokespecial 3, 3) := by decide +kernel
theorem dX11_init_4 : decode cX11_init 4 = .ok (.new 9, 3) := by decide +kernel
theorem dX11_init_7 : decode cX11_init 7 = .ok (.dup, 1) := by decide +kernel
theorem dX11_init_8 : decode cX11_init 8 = .ok (.sipush 700, 3) := by decide +kernel
theorem dX11_init_11 : decode cX11_init 11 = .ok (.invokespecial 11, 3) := by decide +kernel
theorem dX11_init_14 : decode cX11_init 14 = .ok (.astore_n 1, 1) := by decide +kernel
theorem dX11_init_15 : decode cX11_init 15 = .ok (.new 14, 3) := by decide +kernel
theorem dX11_init_18 : decode cX11_init 18 = .ok (.dup, 1) := by decide +kernel
theorem dX11_init_19 : decode cX11_init 19 = .ok (.aload_n 1, 1) := by decide +kernel
theorem dX11_init_20 : decode cX11_init 20 = .ok (.invokespecial 16, 3) := by decide +kernel
theorem dX11_init_23 : decode cX11_init 23 = .ok (.astore_n 2, 1) := by decide +kernel
theorem dX11_init_24 : decode cX11_init 24 = .ok (.new 19, 3) := by decide +kernel
theorem dX11_init_27 : decode cX11_init 27 = .ok (.dup, 1) := by decide +kernel
theorem dX11_init_28 : decode cX11_init 28 = .ok (.aload_n 2, 1) := by decide +kernel
theorem dX11_init_29 : decode cX11_init 29 = .ok (.invokespecial 21, 3) := by decide +kernel
theorem dX11_init_32 : decode cX11_init 32 = .ok (.astore_n 3, 1) := by decide +kernel
theorem dX11_init_33 : decode cX11_init 33 = .ok (.new 24, 3) := by decide +kernel
theorem dX11_init_36 : decode cX11_init 36 = .ok (.dup, 1) := by decide +kernel
theorem dX11_init_37 : decode cX11_init 37 = .ok (.invokespecial 26, 3) := by decide +kernel
theorem dX11_init_40 : decode cX11_init 40 = .ok (.astore 4, 2) := by decide +kernel
theorem dX11_init_42 : decode cX11_init 42 = .ok (.aload_n 1, 1) := by decide +kernel
theorem dX11_init_43 : decode cX11_init 43 = .ok (.ldc 27, 2) := by decide +kernel
theorem dX11_init_45 : decode cX11_init 45 = .ok (.invokevirtual 29, 3) := by decide +kernel
theorem dX11_init_48 : decode cX11_init 48 = .ok (.aload_n 3, 1) := by decide +kernel
theorem dX11_init_49 : decode cX11_init 49 = .ok (.aload 4, 2) := by decide +kernel
theorem dX11_init_51 : decode cX11_init 51 = .ok (.invokevirtual 33, 3) := by decide +kernel
theorem dX11_init_54 : decode cX11_init 54 = .ok (.aload_n 1, 1) := by decide +kernel
theorem dX11_init_55 : decode cX11_init 55 = .ok (.iconst 0, 1) := by decide +kernel
theorem dX11_init_56 : decode cX11_init 56 = .ok (.putfield 37, 3) := by decide +kernel
theorem dX11_init_59 : decode cX11_init 59 = .ok (.aload_n 0, 1) := by decide +kernel
theorem dX11_init_60 : decode cX11_init 60 = .ok (.aload_n 1, 1) := by decide +kernel
theorem dX11_init_61 : decode cX11_init 61 = .ok (.putfield 41, 3) := by decide +kernel
theorem dX11_init_64 : decode cX11_init 64 = .ok (.aload_n 0, 1) := by decide +kernel
theorem dX11_init_65 : decode cX11_init 65 = .ok (.new 9, 3) := by decide +kernel
theorem dX11_init_68 : decode cX11_init 68 = .ok (.dup, 1) := by decide +kernel
theorem dX11_init_69 : decode cX11_init 69 = .ok (.bipush 125, 2) := by decide +kernel
theorem dX11_init_71 : decode cX11_init 71 = .ok (.invokespecial 11, 3) := by decide +kernel
theorem dX11_init_74 : decode cX11_init 74 = .ok (.putfield 45, 3) := by decide +kernel
theorem dX11_init_77 : decode cX11_init 77 = .ok (.aload_n 0, 1) := by decide +kernel
theorem dX11_init_78 : decode cX11_init 78 = .ok (.aload_n 2, 1) := by decide +kernel
theorem dX11_init_79 : decode cX11_init 79 = .ok (.putfield 48, 3) := by decide +kernel
theorem dX11_init_82 : decode cX11_init 82 = .ok (.aload_n 0, 1) := by decide +kernel
theorem dX11_init_83 : decode cX11_init 83 = .ok (.aload_n 3, 1) := by decide +kernel
theorem dX11_init_84 : decode cX11_init 84 = .ok (.putfield 52, 3) := by decide +kernel
theorem dX11_init_87 : decode cX11_init 87 = .ok (.aload_n 0, 1) := by decide +kernel
theorem dX11_init_88 : decode cX11_init 88 = .ok (.new 56, 3) := by decide +kernel
theorem dX11_init_91 : decode cX11_init 91 = .ok (.dup, 1) := by decide +kernel
theorem dX11_init_92 : decode cX11_init 92 = .ok (.aload_n 2, 1) := by decide +kernel
theorem dX11_init_93 : decode cX11_init 93 = .ok (.invokespecial 58, 3) := by decide +kernel
theorem dX11_init_96 : decode cX11_init 96 = .ok (.putfield 59, 3) := by decide +kernel
theorem dX11_init_99 : decode cX11_init 99 = .ok (.aload_n 0, 1) := by decide +kernel
theorem dX11_init_100 : decode cX11_init 100 = .ok (.new 63, 3) := by decide +kernel
theorem dX11_init_103 : decode cX11_init 103 = .ok (.dup, 1) := by decide +kernel
theorem dX11_init_104 : decode cX11_init 104 = .ok (.aload 4, 2) := by decide +kernel
theorem dX11_init_106 : decode cX11_init 106 = .ok (.invokespecial 65, 3) := by decide +kernel
theorem dX11_init_109 : decode cX11_init 109 = .ok (.putfield 67, 3) := by decide +kernel
theorem dX11_init_112 : decode cX11_init 112 = .ok (.aload_n 0, 1) := by decide +kernel
theorem dX11_init_113 : decode cX11_init 113 = .ok (.new 63, 3) := by decide +kernel
theorem dX11_init_116 : decode cX11_init 116 = .ok (.dup, 1) := by decide +kernel
theorem dX11_init_117 : decode cX11_init 117 = .ok (.aload 4, 2) := by decide +kernel
theorem dX11_init_119 : decode cX11_init 119 = .ok (.invokespecial 65, 3) := by decide +kernel
theorem dX11_init_122 : decode cX11_init 122 = .ok (.putfield 71, 3) := by decide +kernel
theorem dX11_init_125 : decode cX11_init 125 = .ok (.aload_n 0, 1) := by decide +kernel
theorem dX11_init_126 : decode cX11_init 126 = .ok (.new 74, 3) := by decide +kernel
theorem dX11_init_129 : decode cX11_init 129 = .ok (.dup, 1) := by decide +kernel
theorem dX11_init_130 : decode cX11_init 130 = .ok (.invokespecial 76, 3) := by decide +kernel
theorem dX11_init_133 : decode cX11_init 133 = .ok (.putfield 77, 3) := by decide +kernel
theorem dX11_init_136 : decode cX11_init 136 = .ok (.aload_n 0, 1) := by decide +kernel
theorem dX11_init_137 : decode cX11_init 137 = .ok (.iconst 2, 1) := by decide +kernel
theorem dX11_init_138 : decode cX11_init 138 = .ok (.anewarray 81, 3) := by decide +kernel
theorem dX11_init_141 : decode cX11_init 141 = .ok (.putfield 83, 3) := by decide +kernel
theorem dX11_init_144 : decode cX11_init 144 = .ok (.iconst 0, 1) := by decide +kernel
theorem dX11_init_145 : decode cX11_init 145 = .ok (.istore 5, 2) := by decide +kernel
theorem dX11_init_147 : decode cX11_init 147 = .ok (.iload 5, 2) := by decide +kernel
theorem dX11_init_149 : decode cX11_init 149 = .ok (.iconst 2, 1) := by decide +kernel
theorem dX11_init_150 : decode cX11_init 150 = .ok (.if_icmp .ge 23, 3) := by decide +kernel
theorem dX11_init_153 : decode cX11_init 153 = .ok (.aload_n 0, 1) := by decide +kernel
theorem dX11_init_154 : decode cX11_init 154 = .ok (.getfield 83, 3) := by decide +kernel
theorem dX11_init_157 : decode cX11_init 157 = .ok (.iload 5, 2) := by decide +kernel
theorem dX11_init_159 : decode cX11_init 159 = .ok (.new 81, 3) := by decide +kernel
theorem dX11_init_162 : decode cX11_init 162 = .ok (.dup, 1) := by decide +kernel
theorem dX11_init_163 : decode cX11_init 163 = .ok (.invokespecial 87, 3) := by decide +kernel
theorem dX11_init_166 : decode cX11_init 166 = .ok (.aastore, 1) := by decide +kernel
theorem dX11_init_167 : decode cX11_init 167 = .ok (.iinc 5 1, 3) := by decide +kernel
theorem dX11_init_170 : decode cX11_init 170 = .ok (.goto (-23), 3) := by decide +kernel
theorem dX11_init_173 : decode cX11_init 173 = .ok (.aload_n 0, 1) := by decide +kernel
theorem dX11_init_174 : decode cX11_init 174 = .ok (.iconst 2, 1) := by decide +kernel
theorem dX11_init_175 : decode cX11_init 175 = .ok (.newarray .boolean, 2) := by decide +kernel
theorem dX11_init_177 : decode cX11_init 177 = .ok (.putfield 88, 3) := by decide +kernel
theorem dX11_init_180 : decode cX11_init 180 = .ok (.aload_n 0, 1) := by decide +kernel
theorem dX11_init_181 : decode cX11_init 181 = .ok (.new 24, 3) := by decide +kernel
theorem dX11_init_184 : decode cX11_init 184 = .ok (.dup, 1) := by decide +kernel
theorem dX11_init_185 : decode cX11_init 185 = .ok (.invokespecial 26, 3) := by decide +kernel
theorem dX11_init_188 : decode cX11_init 188 = .ok (.putfield 92, 3) := by decide +kernel
theorem dX11_init_191 : decode cX11_init 191 = .ok (.return_, 1) := by decide +kernel
set_option maxRecDepth 20000 in
theorem ggX11_append_X9_addFourBytes : GoodIn wsX11_append wsX9_addFourBytes := goodIn_r _ [8, 9, 10, 11, 7, 12, 13, 14, 26, 27] rfl (by decide +kernel)
set_option maxRecDepth 20000 in
theorem gX11_append_X9_addFourBytes : GoodIn wsX11_append (wsV RX11 102 RX9 yX9_addFourBytes wsX9_addFourBytes) := goodIn_app (goodIn_of _ (by decide +kernel)) ggX11_append_X9_addFourBytes
theorem dX11_append_0 : decode cX11_append 0 = .ok (.aload_n 0, 1) := by decide +kernel
theorem dX11_append_1 : decode cX11_append 1 = .ok (.getfield 41, 3) := by decide +kernel
theorem dX11_append_4 : decode cX11_append 4 = .ok (.getfield 37, 3) := by decide +kernel
theorem dX11_append_7 : decode cX11_append 7 = .ok (.sipush 680, 3) := by decide +kernel
theorem dX11_append_10 : decode cX11_append 10 = .ok (.if_icmp .le 13, 3) := by decide +kernel
theorem dX11_append_13 : decode cX11_append 13 = .ok (.new 96, 3) := by decide +kernel
theorem dX11_append_16 : decode cX11_append 16 = .ok (.dup, 1) := by decide +kernel
theorem dX11_append_17 : decode cX11_append 17 = .ok (.ldc 98, 2) := by decide +kernel
theorem dX11_append_19 : decode cX11_append 19 = .ok (.invokespecial 100, 3) := by decide +kernel
theorem dX11_append_22 : decode cX11_append 22 = .ok (.athrow, 1) := by decide +kernel
theorem dX11_append_23 : decode cX11_append 23 = .ok (.aload_n 0, 1) := by decide +kernel
theorem dX11_append_24 : decode cX11_append 24 = .ok (.getfield 41, 3) := by decide +kernel
theorem dX11_append_27 : decode cX11_append 27 = .ok (.iload_n 1, 1) := by decide +kernel
theorem dX11_append_28 : decode cX11_append 28 = .ok (.invokevirtual 102, 3) := by decide +kernel
theorem dX11_append_31 : decode cX11_append 31 = .ok (.aload_n 0, 1) := by decide +kernel
theorem dX11_append_32 : decode cX11_append 32 = .ok (.getfield 41, 3) := by decide +kernel
theorem dX11_append_35 : decode cX11_append 35 = .ok (.iload_n 2, 1) := by decide +kernel
theorem dX11_append_36 : decode cX11_append 36 = .ok (.invokevirtual 102, 3) := by decide +kernel
theorem dX11_append_39 : decode cX11_append 39 = .ok (.aload_n 0, 1) := by decide +kernel
theorem dX11_append_40 : decode cX11_append 40 = .ok (.getfield 41, 3) := by decide +kernel
theorem dX11_append_43 : decode cX11_append 43 = .ok (.iload_n 3, 1) := by decide +kernel
theorem dX11_append_44 : decode cX11_append 44 = .ok (.invokevirtual 102, 3) := by decide +kernel
theorem dX11_append_47 : decode cX11_append 47 = .ok (.aload_n 0, 1) := by decide +kernel
theorem dX11_append_48 : decode cX11_append 48 = .ok (.getfield 41, 3) := by decide +kernel
theorem dX11_append_51 : decode cX11_append 51 = .ok (.iload 4, 2) := by decide +kernel
theorem dX11_append_53 : decode cX11_append 53 = .ok (.invokevirtual 102, 3) := by decide +kernel
theorem dX11_append_56 : decode cX11_append 56 = .ok (.aload_n 0, 1) := by decide +kernel
