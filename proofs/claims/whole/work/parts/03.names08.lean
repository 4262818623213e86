theorem dX12_bottleneck_0 : decode cX12_bottleneck 0 = .ok (.aload_n 0, 1) := by decide +kernel
theorem dX12_bottleneck_1 : decode cX12_bottleneck 1 = .ok (.aload_n 0, 1) := by decide +kernel
theorem dX12_bottleneck_2 : decode cX12_bottleneck 2 = .ok (.invokevirtual 161, 3) := by decide +kernel
theorem dX12_bottleneck_5 : decode cX12_bottleneck 5 = .ok (.iconst 0, 1) := by decide +kernel
theorem dX12_bottleneck_6 : decode cX12_bottleneck 6 = .ok (.iconst 0, 1) := by decide +kernel
theorem dX12_bottleneck_7 : decode cX12_bottleneck 7 = .ok (.invokevirtual 167, 3) := by decide +kernel
theorem dX12_bottleneck_10 : decode cX12_bottleneck 10 = .ok (.ifCond .eq 5, 3) := by decide +kernel
theorem dX12_bottleneck_13 : decode cX12_bottleneck 13 = .ok (.iconst 0, 1) := by decide +kernel
theorem dX12_bottleneck_14 : decode cX12_bottleneck 14 = .ok (.ireturn, 1) := by decide +kernel
theorem dX12_bottleneck_15 : decode cX12_bottleneck 15 = .ok (.aload_n 0, 1) := by decide +kernel
theorem dX12_bottleneck_16 : decode cX12_bottleneck 16 = .ok (.iconst 0, 1) := by decide +kernel
theorem dX12_bottleneck_17 : decode cX12_bottleneck 17 = .ok (.bipush 10, 2) := by decide +kernel
theorem dX12_bottleneck_19 : decode cX12_bottleneck 19 = .ok (.invokevirtual 91, 3) := by decide +kernel
theorem dX12_bottleneck_22 : decode cX12_bottleneck 22 = .ok (.iconst (-1), 1) := by decide +kernel
theorem dX12_bottleneck_23 : decode cX12_bottleneck 23 = .ok (.istore_n 1, 1) := by decide +kernel
theorem dX12_bottleneck_24 : decode cX12_bottleneck 24 = .ok (.iconst 0, 1) := by decide +kernel
theorem dX12_bottleneck_25 : decode cX12_bottleneck 25 = .ok (.istore_n 2, 1) := by decide +kernel
theorem dX12_bottleneck_26 : decode cX12_bottleneck 26 = .ok (.iconst 0, 1) := by decide +kernel
theorem dX12_bottleneck_27 : decode cX12_bottleneck 27 = .ok (.istore_n 3, 1) := by decide +kernel
theorem dX12_bottleneck_28 : decode cX12_bottleneck 28 = .ok (.iload_n 3, 1) := by decide +kernel
theorem dX12_bottleneck_29 : decode cX12_bottleneck 29 = .ok (.aload_n 0, 1) := by decide +kernel
theorem dX12_bottleneck_30 : decode cX12_bottleneck 30 = .ok (.getfield 13, 3) := by decide +kernel
theorem dX12_bottleneck_33 : decode cX12_bottleneck 33 = .ok (.bipush 13, 2) := by decide +kernel
theorem dX12_bottleneck_35 : decode cX12_bottleneck 35 = .ok (.iaload, 1) := by decide +kernel
theorem dX12_bottleneck_36 : decode cX12_bottleneck 36 = .ok (.if_icmp .ge 98, 3) := by decide +kernel
theorem dX12_bottleneck_39 : decode cX12_bottleneck 39 = .ok (.aload_n 0, 1) := by decide +kernel
theorem dX12_bottleneck_40 : decode cX12_bottleneck 40 = .ok (.iload_n 3, 1) := by decide +kernel
theorem dX12_bottleneck_41 : decode cX12_bottleneck 41 = .ok (.bipush 17, 2) := by decide +kernel
theorem dX12_bottleneck_43 : decode cX12_bottleneck 43 = .ok (.invokevirtual 95, 3) := by decide +kernel
theorem dX12_bottleneck_46 : decode cX12_bottleneck 46 = .ok (.iconst 2, 1) := by decide +kernel
theorem dX12_bottleneck_47 : decode cX12_bottleneck 47 = .ok (.if_icmp .ne 6, 3) := by decide +kernel
theorem dX12_bottleneck_50 : decode cX12_bottleneck 50 = .ok (.goto 78, 3) := by decide +kernel
theorem dX12_bottleneck_53 : decode cX12_bottleneck 53 = .ok (.aload_n 0, 1) := by decide +kernel
theorem dX12_bottleneck_54 : decode cX12_bottleneck 54 = .ok (.iload_n 3, 1) := by decide +kernel
theorem dX12_bottleneck_55 : decode cX12_bottleneck 55 = .ok (.bipush 7, 2) := by decide +kernel
theorem dX12_bottleneck_57 : decode cX12_bottleneck 57 = .ok (.invokevirtual 95, 3) := by decide +kernel
theorem dX12_bottleneck_60 : decode cX12_bottleneck 60 = .ok (.iconst 1, 1) := by decide +kernel
theorem dX12_bottleneck_61 : decode cX12_bottleneck 61 = .ok (.if_icmp .le 19, 3) := by decide +kernel
theorem dX12_bottleneck_64 : decode cX12_bottleneck 64 = .ok (.aload_n 0, 1) := by decide +kernel
theorem dX12_bottleneck_65 : decode cX12_bottleneck 65 = .ok (.iload_n 3, 1) := by decide +kernel
theorem dX12_bottleneck_66 : decode cX12_bottleneck 66 = .ok (.bipush 7, 2) := by decide +kernel
theorem dX12_bottleneck_68 : decode cX12_bottleneck 68 = .ok (.aload_n 0, 1) := by decide +kernel
theorem dX12_bottleneck_69 : decode cX12_bottleneck 69 = .ok (.iload_n 3, 1) := by decide +kernel
theorem dX12_bottleneck_70 : decode cX12_bottleneck 70 = .ok (.bipush 7, 2) := by decide +kernel
theorem dX12_bottleneck_72 : decode cX12_bottleneck 72 = .ok (.invokevirtual 95, 3) := by decide +kernel
theorem dX12_bottleneck_75 : decode cX12_bottleneck 75 = .ok (.iconst 1, 1) := by decide +kernel
theorem dX12_bottleneck_76 : decode cX12_bottleneck 76 = .ok (.isub, 1) := by decide +kernel
theorem dX12_bottleneck_77 : decode cX12_bottleneck 77 = .ok (.invokevirtual 126, 3) := by decide +kernel
theorem dX12_bottleneck_80 : decode cX12_bottleneck 80 = .ok (.aload_n 0, 1) := by decide +kernel
theorem dX12_bottleneck_81 : decode cX12_bottleneck 81 = .ok (.invokevirtual 325, 3) := by decide +kernel
theorem dX12_bottleneck_84 : decode cX12_bottleneck 84 = .ok (.istore 4, 2) := by decide +kernel
theorem dX12_bottleneck_86 : decode cX12_bottleneck 86 = .ok (.aload_n 0, 1) := by decide +kernel
theorem dX12_bottleneck_87 : decode cX12_bottleneck 87 = .ok (.bipush 10, 2) := by decide +kernel
theorem dX12_bottleneck_89 : decode cX12_bottleneck 89 = .ok (.iconst 0, 1) := by decide +kernel
theorem dX12_bottleneck_90 : decode cX12_bottleneck 90 = .ok (.invokevirtual 91, 3) := by decide +kernel
theorem dX12_bottleneck_93 : decode cX12_bottleneck 93 = .ok (.iload 4, 2) := by decide +kernel
theorem dX12_bottleneck_95 : decode cX12_bottleneck 95 = .ok (.iconst (-1), 1) := by decide +kernel
theorem dX12_bottleneck_96 : decode cX12_bottleneck 96 = .ok (.if_icmp .ne 9, 3) := by decide +kernel
theorem dX12_bottleneck_99 : decode cX12_bottleneck 99 = .ok (.sipush 501, 3) := by decide +kernel
theorem dX12_bottleneck_102 : decode cX12_bottleneck 102 = .ok (.goto 5, 3) := by decide +kernel
theorem dX12_bottleneck_105 : decode cX12_bottleneck 105 = .ok (.iload 4, 2) := by decide +kernel
theorem dX12_bottleneck_107 : decode cX12_bottleneck 107 = .ok (.istore 4, 2) := by decide +kernel
theorem dX12_bottleneck_109 : decode cX12_bottleneck 109 = .ok (.iload_n 1, 1) := by decide +kernel
theorem dX12_bottleneck_110 : decode cX12_bottleneck 110 = .ok (.iconst (-1), 1) := by decide +kernel
theorem dX12_bottleneck_111 : decode cX12_bottleneck 111 = .ok (.if_icmp .eq 12, 3) := by decide +kernel
theorem dX12_bottleneck_114 : decode cX12_bottleneck 114 = .ok (.iload 4, 2) := by decide +kernel
theorem dX12_bottleneck_116 : decode cX12_bottleneck 116 = .ok (.iload_n 2, 1) := by decide +kernel
theorem dX12_bottleneck_117 : decode cX12_bottleneck 117 = .ok (.if_icmp .lt 6, 3) := by decide +kernel
theorem dX12_bottleneck_120 : decode cX12_bottleneck 120 = .ok (.goto 8, 3) := by decide +kernel
theorem dX12_bottleneck_123 : decode cX12_bottleneck 123 = .ok (.iload_n 3, 1) := by decide +kernel
theorem dX12_bottleneck_124 : decode cX12_bottleneck 124 = .ok (.istore_n 1, 1) := by decide +kernel
theorem dX12_bottleneck_125 : decode cX12_bottleneck 125 = .ok (.iload 4, 2) := by decide +kernel
theorem dX12_bottleneck_127 : decode cX12_bottleneck 127 = .ok (.istore_n 2, 1) := by decide +kernel
theorem dX12_bottleneck_128 : decode cX12_bottleneck 128 = .ok (.iinc 3 1, 3) := by decide +kernel
theorem dX12_bottleneck_131 : decode cX12_bottleneck 131 = .ok (.goto (-103), 3) := by decide +kernel
theorem dX12_bottleneck_134 : decode cX12_bottleneck 134 = .ok (.iload_n 1, 1) := by decide +kernel
theorem dX12_bottleneck_135 : decode cX12_bottleneck 135 = .ok (.ireturn, 1) := by decide +kernel
set_option maxRecDepth 20000 in
theorem ggX12_saltNeeded_X12_of : GoodIn wsX12_saltNeeded wsX12_of := goodIn_r _ [7, 2, 8, 9, 10, 11, 12, 13, 14, 15, 16, 17, 18, 19, 20, 21, 22, 23, 24, 25, 26] rfl (by decide +kernel)
set_option maxRecDepth 20000 in
theorem gX12_saltNeeded_X12_of : GoodIn wsX12_saltNeeded (wsV RX12 95 RX12 yX12_of wsX12_of) := goodIn_app (goodIn_of _ (by decide +kernel)) ggX12_saltNeeded_X12_of
theorem dX12_saltNeeded_0 : decode cX12_saltNeeded 0 = .ok (.aload_n 0, 1) := by decide +kernel
theorem dX12_saltNeeded_1 : decode cX12_saltNeeded 1 = .ok (.iconst 0, 1) := by decide +kernel
theorem dX12_saltNeeded_2 : decode cX12_saltNeeded 2 = .ok (.putfield 1, 3) := by decide +kernel
theorem dX12_saltNeeded_5 : decode cX12_saltNeeded 5 = .ok (.aload_n 0, 1) := by decide +kernel
theorem dX12_saltNeeded_6 : decode cX12_saltNeeded 6 = .ok (.getfield 13, 3) := by decide +kernel
theorem dX12_saltNeeded_9 : decode cX12_saltNeeded 9 = .ok (.iconst 5, 1) := by decide +kernel
theorem dX12_saltNeeded_10 : decode cX12_saltNeeded 10 = .ok (.iaload, 1) := by decide +kernel
theorem dX12_saltNeeded_11 : decode cX12_saltNeeded 11 = .ok (.istore_n 1, 1) := by decide +kernel
theorem dX12_saltNeeded_12 : decode cX12_saltNeeded 12 = .ok (.iconst 0, 1) := by decide +kernel
theorem dX12_saltNeeded_13 : decode cX12_saltNeeded 13 = .ok (.istore_n 2, 1) := by decide +kernel
theorem dX12_saltNeeded_14 : decode cX12_saltNeeded 14 = .ok (.iload_n 2, 1) := by decide +kernel
theorem dX12_saltNeeded_15 : decode cX12_saltNeeded 15 = .ok (.aload_n 0, 1) := by decide +kernel
theorem dX12_saltNeeded_16 : decode cX12_saltNeeded 16 = .ok (.getfield 13, 3) := by decide +kernel
theorem dX12_saltNeeded_19 : decode cX12_saltNeeded 19 = .ok (.bipush 13, 2) := by decide +kernel
theorem dX12_saltNeeded_21 : decode cX12_saltNeeded 21 = .ok (.iaload, 1) := by decide +kernel
theorem dX12_saltNeeded_22 : decode cX12_saltNeeded 22 = .ok (.if_icmp .ge 19, 3) := by decide +kernel
theorem dX12_saltNeeded_25 : decode cX12_saltNeeded 25 = .ok (.iload_n 1, 1) := by decide +kernel
theorem dX12_saltNeeded_26 : decode cX12_saltNeeded 26 = .ok (.aload_n 0, 1) := by decide +kernel
theorem dX12_saltNeeded_27 : decode cX12_saltNeeded 27 = .ok (.iload_n 2, 1) := by decide +kernel
theorem dX12_saltNeeded_28 : decode cX12_saltNeeded 28 = .ok (.bipush 8, 2) := by decide +kernel
theorem dX12_saltNeeded_30 : decode cX12_saltNeeded 30 = .ok (.invokevirtual 95, 3) := by decide +kernel
theorem dX12_saltNeeded_33 : decode cX12_saltNeeded 33 = .ok (.iadd, 1) := by decide +kernel
theorem dX12_saltNeeded_34 : decode cX12_saltNeeded 34 = .ok (.istore_n 1, 1) := by decide +kernel
theorem dX12_saltNeeded_35 : decode cX12_saltNeeded 35 = .ok (.iinc 2 1, 3) := by decide +kernel
theorem dX12_saltNeeded_38 : decode cX12_saltNeeded 38 = .ok (.goto (-24), 3) := by decide +kernel
theorem dX12_saltNeeded_41 : decode cX12_saltNeeded 41 = .ok (.iload_n 1, 1) := by decide +kernel
theorem dX12_saltNeeded_42 : decode cX12_saltNeeded 42 = .ok (.aload_n 0, 1) := by decide +kernel
theorem dX12_saltNeeded_43 : decode cX12_saltNeeded 43 = .ok (.getfield 13, 3) := by decide +kernel
theorem dX12_saltNeeded_46 : decode cX12_saltNeeded 46 = .ok (.iconst 2, 1) := by decide +kernel
theorem dX12_saltNeeded_47 : decode cX12_saltNeeded 47 = .ok (.iaload, 1) := by decide +kernel
theorem dX12_saltNeeded_48 : decode cX12_saltNeeded 48 = .ok (.if_icmp .ge 12, 3) := by decide +kernel
theorem dX12_saltNeeded_51 : decode cX12_saltNeeded 51 = .ok (.aload_n 0, 1) := by decide +kernel
theorem dX12_saltNeeded_52 : decode cX12_saltNeeded 52 = .ok (.getfield 13, 3) := by decide +kernel
theorem dX12_saltNeeded_55 : decode cX12_saltNeeded 55 = .ok (.iconst 2, 1) := by decide +kernel
theorem dX12_saltNeeded_56 : decode cX12_saltNeeded 56 = .ok (.iaload, 1) := by decide +kernel
theorem dX12_saltNeeded_57 : decode cX12_saltNeeded 57 = .ok (.iload_n 1, 1) := by decide +kernel
theorem dX12_saltNeeded_58 : decode cX12_saltNeeded 58 = .ok (.isub, 1) := by decide +kernel
theorem dX12_saltNeeded_59 : decode cX12_saltNeeded 59 = .ok (.ireturn, 1) := by decide +kernel
theorem dX12_saltNeeded_60 : decode cX12_saltNeeded 60 = .ok (.iload_n 1, 1) := by decide +kernel
theorem dX12_saltNeeded_61 : decode cX12_saltNeeded 61 = .ok (.aload_n 0, 1) := by decide +kernel
theorem dX12_saltNeeded_62 : decode cX12_saltNeeded 62 = .ok (.getfield 13, 3) := by decide +kernel
theorem dX12_saltNeeded_65 : decode cX12_saltNeeded 65 = .ok (.iconst 3, 1) := by decide +kernel
theorem dX12_saltNeeded_66 : decode cX12_saltNeeded 66 = .ok (.iaload, 1) := by decide +kernel
theorem dX12_saltNeeded_67 : decode cX12_saltNeeded 67 = .ok (.if_icmp .le 14, 3) := by decide +kernel
theorem dX12_saltNeeded_70 : decode cX12_saltNeeded 70 = .ok (.aload_n 0, 1) := by decide +kernel
theorem dX12_saltNeeded_71 : decode cX12_saltNeeded 71 = .ok (.getfield 13, 3) := by decide +kernel
theorem dX12_saltNeeded_74 : decode cX12_saltNeeded 74 = .ok (.iconst 3, 1) := by decide +kernel
theorem dX12_saltNeeded_75 : decode cX12_saltNeeded 75 = .ok (.iaload, 1) := by decide +kernel
theorem dX12_saltNeeded_76 : decode cX12_saltNeeded 76 = .ok (.iload_n 1, 1) := by decide +kernel
theorem dX12_saltNeeded_77 : decode cX12_saltNeeded 77 = .ok (.isub, 1) := by decide +kernel
theorem dX12_saltNeeded_78 : decode cX12_saltNeeded 78 = .ok (.goto 4, 3) := by decide +kernel
theorem dX12_saltNeeded_81 : decode cX12_saltNeeded 81 = .ok (.iconst 0, 1) := by decide +kernel
theorem dX12_saltNeeded_82 : decode cX12_saltNeeded 82 = .ok (.ireturn, 1) := by decide +kernel
set_option maxRecDepth 20000 in
theorem ggX12_doneShare_X12_withStatus : GoodIn wsX12_doneShare wsX12_withStatus := goodIn_r _ [7, 2, 8, 9, 10, 6, 11, 12, 13, 14, 15, 16, 17, 18, 19, 20, 21, 22, 23, 24, 25, 26, 27, 28, 29, 30] rfl (by decide +kernel)
set_option maxRecDepth 20000 in
theorem gX12_doneShare_X12_withStatus : GoodIn wsX12_doneShare (wsV RX12 123 RX12 yX12_withStatus wsX12_withStatus) := goodIn_app (goodIn_of _ (by decide +kernel)) ggX12_doneShare_X12_withStatus
theorem dX12_doneShare_0 : decode cX12_doneShare 0 = .ok (.aload_n 0, 1) := by decide +kernel
theorem dX12_doneShare_1 : decode cX12_doneShare 1 = .ok (.iconst 0, 1) := by decide +kernel
theorem dX12_doneShare_2 : decode cX12_doneShare 2 = .ok (.putfield 1, 3) := by decide +kernel
theorem dX12_doneShare_5 : decode cX12_doneShare 5 = .ok (.aload_n 0, 1) := by decide +kernel
theorem dX12_doneShare_6 : decode cX12_doneShare 6 = .ok (.iconst 2, 1) := by decide +kernel
theorem dX12_doneShare_7 : decode cX12_doneShare 7 = .ok (.invokevirtual 123, 3) := by decide +kernel
theorem dX12_doneShare_10 : decode cX12_doneShare 10 = .ok (.i2f, 1) := by decide +kernel
theorem dX12_doneShare_11 : decode cX12_doneShare 11 = .ok (.aload_n 0, 1) := by decide +kernel
theorem dX12_doneShare_12 : decode cX12_doneShare 12 = .ok (.getfield 13, 3) := by decide +kernel
theorem dX12_doneShare_15 : decode cX12_doneShare 15 = .ok (.bipush 13, 2) := by decide +kernel
theorem dX12_doneShare_17 : decode cX12_doneShare 17 = .ok (.iaload, 1) := by decide +kernel
theorem dX12_doneShare_18 : decode cX12_doneShare 18 = .ok (.i2f, 1) := by decide +kernel
theorem dX12_doneShare_19 : decode cX12_doneShare 19 = .ok (.fdiv, 1) := by decide +kernel
theorem dX12_doneShare_20 : decode cX12_doneShare 20 = .ok (.freturn, 1) := by decide +kernel
set_option maxRecDepth 20000 in
theorem ggX12_meanDuration_X12_of : GoodIn wsX12_meanDuration wsX12_of := goodIn_r _ [7, 2, 8, 9, 10, 11, 12, 13, 14, 15, 16, 17, 18, 19, 20, 21, 22, 23, 24, 25, 26] rfl (by decide +kernel)
set_option maxRecDepth 20000 in
theorem gX12_meanDuration_X12_of : GoodIn wsX12_meanDuration (wsV RX12 95 RX12 yX12_of wsX12_of) := goodIn_app (goodIn_of _ (by decide +kernel)) ggX12_meanDuration_X12_of
theorem dX12_meanDuration_0 : decode cX12_meanDuration 0 = .ok (.aload_n 0, 1) := by decide +kernel
theorem dX12_meanDuration_1 : decode cX12_meanDuration 1 = .ok (.iconst 0, 1) := by decide +kernel
theorem dX12_meanDuration_2 : decode cX12_meanDuration 2 = .ok (.putfield 1, 3) := by decide +kernel
theorem dX12_meanDuration_5 : decode cX12_meanDuration 5 = .ok (.iconst 0, 1) := by decide +kernel
theorem dX12_meanDuration_6 : decode cX12_meanDuration 6 = .ok (.istore_n 1, 1) := by decide +kernel
theorem dX12_meanDuration_7 : decode cX12_meanDuration 7 = .ok (.iconst 0, 1) := by decide +kernel
theorem dX12_meanDuration_8 : decode cX12_meanDuration 8 = .ok (.istore_n 2, 1) := by decide +kernel
theorem dX12_meanDuration_9 : decode cX12_meanDuration 9 = .ok (.iload_n 2, 1) := by decide +kernel
theorem dX12_meanDuration_10 : decode cX12_meanDuration 10 = .ok (.aload_n 0, 1) := by decide +kernel
theorem dX12_meanDuration_11 : decode cX12_meanDuration 11 = .ok (.getfield 13, 3) := by decide +kernel
theorem dX12_meanDuration_14 : decode cX12_meanDuration 14 = .ok (.bipush 13, 2) := by decide +kernel
theorem dX12_meanDuration_16 : decode cX12_meanDuration 16 = .ok (.iaload, 1) := by decide +kernel
theorem dX12_meanDuration_17 : decode cX12_meanDuration 17 = .ok (.if_icmp .ge 19, 3) := by decide +kernel
theorem dX12_meanDuration_20 : decode cX12_meanDuration 20 = .ok (.iload_n 1, 1) := by decide +kernel
theorem dX12_meanDuration_21 : decode cX12_meanDuration 21 = .ok (.aload_n 0, 1) := by decide +kernel
theorem dX12_meanDuration_22 : decode cX12_meanDuration 22 = .ok (.iload_n 2, 1) := by decide +kernel
theorem dX12_meanDuration_23 : decode cX12_meanDuration 23 = .ok (.bipush 7, 2) := by decide +kernel
theorem dX12_meanDuration_25 : decode cX12_meanDuration 25 = .ok (.invokevirtual 95, 3) := by decide +kernel
theorem dX12_meanDuration_28 : decode cX12_meanDuration 28 = .ok (.iadd, 1) := by decide +kernel
theorem dX12_meanDuration_29 : decode cX12_meanDuration 29 = .ok (.istore_n 1, 1) := by decide +kernel
theorem dX12_meanDuration_30 : decode cX12_meanDuration 30 = .ok (.iinc 2 1, 3) := by decide +kernel
theorem dX12_meanDuration_33 : decode cX12_meanDuration 33 = .ok (.goto (-24), 3) := by decide +kernel
theorem dX12_meanDuration_36 : decode cX12_meanDuration 36 = .ok (.iload_n 1, 1) := by decide +kernel
theorem dX12_meanDuration_37 : decode cX12_meanDuration 37 = .ok (.i2d, 1) := by decide +kernel
theorem dX12_meanDuration_38 : decode cX12_meanDuration 38 = .ok (.aload_n 0, 1) := by decide +kernel
theorem dX12_meanDuration_39 : decode cX12_meanDuration 39 = .ok (.getfield 13, 3) := by decide +kernel
theorem dX12_meanDuration_42 : decode cX12_meanDuration 42 = .ok (.bipush 13, 2) := by decide +kernel
theorem dX12_meanDuration_44 : decode cX12_meanDuration 44 = .ok (.iaload, 1) := by decide +kernel
theorem dX12_meanDuration_45 : decode cX12_meanDuration 45 = .ok (.i2d, 1) := by decide +kernel
theorem dX12_meanDuration_46 : decode cX12_meanDuration 46 = .ok (.ddiv, 1) := by decide +kernel
theorem dX12_meanDuration_47 : decode cX12_meanDuration 47 = .ok (.dreturn, 1) := by decide +kernel
set_option maxRecDepth 20000 in
theorem ggX12_inconsistencies_X12_withStatus : GoodIn wsX12_inconsistencies wsX12_withStatus := goodIn_r _ [7, 2, 8, 9, 10, 6, 11, 12, 13, 14, 15, 16, 17, 18, 19, 20, 21, 22, 23, 24, 25, 26, 27, 28, 29, 30] rfl (by decide +kernel)
set_option maxRecDepth 20000 in
theorem gX12_inconsistencies_X12_withStatus : GoodIn wsX12_inconsistencies (wsV RX12 123 RX12 yX12_withStatus wsX12_withStatus) := goodIn_app (goodIn_of _ (by decide +kernel)) ggX12_inconsistencies_X12_withStatus
set_option maxRecDepth 20000 in
theorem ggX12_inconsistencies_X12_of : GoodIn wsX12_inconsistencies wsX12_of := goodIn_r _ [11, 2, 12, 13, 14, 15, 16, 17, 18, 19, 20, 21, 22, 23, 24, 25, 26, 27, 28, 29, 30] rfl (by decide +kernel)
set_option maxRecDepth 20000 in
theorem gX12_inconsistencies_X12_of : GoodIn wsX12_inconsistencies (wsV RX12 95 RX12 yX12_of wsX12_of) := goodIn_app (goodIn_of _ (by decide +kernel)) ggX12_inconsistencies_X12_of
theorem dX12_inconsistencies_0 : decode cX12_inconsistencies 0 = .ok (.aload_n 0, 1) := by decide +kernel
theorem dX12_inconsistencies_1 : decode cX12_inconsistencies 1 = .ok (.iconst 0, 1) := by decide +kernel
theorem dX12_inconsistencies_2 : decode cX12_inconsistencies 2 = .ok (.putfield 1, 3) := by decide +kernel
theorem dX12_inconsistencies_5 : decode cX12_inconsistencies 5 = .ok (.aload_n 0, 1) := by decide +kernel
theorem dX12_inconsistencies_6 : decode cX12_inconsistencies 6 = .ok (.getfield 13, 3) := by decide +kernel
theorem dX12_inconsistencies_9 : decode cX12_inconsistencies 9 = .ok (.bipush 7, 2) := by decide +kernel
theorem dX12_inconsistencies_11 : decode cX12_inconsistencies 11 = .ok (.iaload, 1) := by decide +kernel
theorem dX12_inconsistencies_12 : decode cX12_inconsistencies 12 = .ok (.aload_n 0, 1) := by decide +kernel
theorem dX12_inconsistencies_13 : decode cX12_inconsistencies 13 = .ok (.getfield 13, 3) := by decide +kernel
theorem dX12_inconsistencies_16 : decode cX12_inconsistencies 16 = .ok (.bipush 8, 2) := by decide +kernel
theorem dX12_inconsistencies_18 : decode cX12_inconsistencies 18 = .ok (.iaload, 1) := by decide +kernel
theorem dX12_inconsistencies_19 : decode cX12_inconsistencies 19 = .ok (.isub, 1) := by decide +kernel
theorem dX12_inconsistencies_20 : decode cX12_inconsistencies 20 = .ok (.aload_n 0, 1) := by decide +kernel
theorem dX12_inconsistencies_21 : decode cX12_inconsistencies 21 = .ok (.iconst 1, 1) := by decide +kernel
theorem dX12_inconsistencies_22 : decode cX12_inconsistencies 22 = .ok (.invokevirtual 123, 3) := by decide +kernel
theorem dX12_inconsistencies_25 : decode cX12_inconsistencies 25 = .ok (.isub, 1) := by decide +kernel
theorem dX12_inconsistencies_26 : decode cX12_inconsistencies 26 = .ok (.aload_n 0, 1) := by decide +kernel
theorem dX12_inconsistencies_27 : decode cX12_inconsistencies 27 = .ok (.getfield 13, 3) := by decide +kernel
theorem dX12_inconsistencies_30 : decode cX12_inconsistencies 30 = .ok (.bipush 11, 2) := by decide +kernel
theorem dX12_inconsistencies_32 : decode cX12_inconsistencies 32 = .ok (.iaload, 1) := by decide +kernel
theorem dX12_inconsistencies_33 : decode cX12_inconsistencies 33 = .ok (.isub, 1) := by decide +kernel
theorem dX12_inconsistencies_34 : decode cX12_inconsistencies 34 = .ok (.istore_n 1, 1) := by decide +kernel
theorem dX12_inconsistencies_35 : decode cX12_inconsistencies 35 = .ok (.iconst 0, 1) := by decide +kernel
theorem dX12_inconsistencies_36 : decode cX12_inconsistencies 36 = .ok (.istore_n 2, 1) := by decide +kernel
theorem dX12_inconsistencies_37 : decode cX12_inconsistencies 37 = .ok (.iload_n 2, 1) := by decide +kernel
theorem dX12_inconsistencies_38 : decode cX12_inconsistencies 38 = .ok (.aload_n 0, 1) := by decide +kernel
theorem dX12_inconsistencies_39 : decode cX12_inconsistencies 39 = .ok (.getfield 13, 3) := by decide +kernel
theorem dX12_inconsistencies_42 : decode cX12_inconsistencies 42 = .ok (.bipush 13, 2) := by decide +kernel
theorem dX12_inconsistencies_44 : decode cX12_inconsistencies 44 = .ok (.iaload, 1) := by decide +kernel
theorem dX12_inconsistencies_45 : decode cX12_inconsistencies 45 = .ok (.if_icmp .ge 84, 3) := by decide +kernel
theorem dX12_inconsistencies_48 : decode cX12_inconsistencies 48 = .ok (.iconst 0, 1) := by decide +kernel
theorem dX12_inconsistencies_49 : decode cX12_inconsistencies 49 = .ok (.istore_n 3, 1) := by decide +kernel
theorem dX12_inconsistencies_50 : decode cX12_inconsistencies 50 = .ok (.iconst 0, 1) := by decide +kernel
theorem dX12_inconsistencies_51 : decode cX12_inconsistencies 51 = .ok (.istore 4, 2) := by decide +kernel
theorem dX12_inconsistencies_53 : decode cX12_inconsistencies 53 = .ok (.iload 4, 2) := by decide +kernel
theorem dX12_inconsistencies_55 : decode cX12_inconsistencies 55 = .ok (.aload_n 0, 1) := by decide +kernel
theorem dX12_inconsistencies_56 : decode cX12_inconsistencies 56 = .ok (.iload_n 2, 1) := by decide +kernel
theorem dX12_inconsistencies_57 : decode cX12_inconsistencies 57 = .ok (.bipush 12, 2) := by decide +kernel
theorem dX12_inconsistencies_59 : decode cX12_inconsistencies 59 = .ok (.invokevirtual 95, 3) := by decide +kernel
theorem dX12_inconsistencies_62 : decode cX12_inconsistencies 62 = .ok (.if_icmp .ge 38, 3) := by decide +kernel
theorem dX12_inconsistencies_65 : decode cX12_inconsistencies 65 = .ok (.iload_n 3, 1) := by decide +kernel
theorem dX12_inconsistencies_66 : decode cX12_inconsistencies 66 = .ok (.ifCond .ne 22, 3) := by decide +kernel
theorem dX12_inconsistencies_69 : decode cX12_inconsistencies 69 = .ok (.aload_n 0, 1) := by decide +kernel
theorem dX12_inconsistencies_70 : decode cX12_inconsistencies 70 = .ok (.aload_n 0, 1) := by decide +kernel
theorem dX12_inconsistencies_71 : decode cX12_inconsistencies 71 = .ok (.iload_n 2, 1) := by decide +kernel
theorem dX12_inconsistencies_72 : decode cX12_inconsistencies 72 = .ok (.bipush 13, 2) := by decide +kernel
theorem dX12_inconsistencies_74 : decode cX12_inconsistencies 74 = .ok (.iload 4, 2) := by decide +kernel
theorem dX12_inconsistencies_76 : decode cX12_inconsistencies 76 = .ok (.iadd, 1) := by decide +kernel
theorem dX12_inconsistencies_77 : decode cX12_inconsistencies 77 = .ok (.invokevirtual 95, 3) := by decide +kernel
theorem dX12_inconsistencies_80 : decode cX12_inconsistencies 80 = .ok (.bipush 21, 2) := by decide +kernel
theorem dX12_inconsistencies_82 : decode cX12_inconsistencies 82 = .ok (.invokevirtual 95, 3) := by decide +kernel
theorem dX12_inconsistencies_85 : decode cX12_inconsistencies 85 = .ok (.ifCond .ne 7, 3) := by decide +kernel
theorem dX12_inconsistencies_88 : decode cX12_inconsistencies 88 = .ok (.iconst 1, 1) := by decide +kernel
theorem dX12_inconsistencies_89 : decode cX12_inconsistencies 89 = .ok (.goto 4, 3) := by decide +kernel
theorem dX12_inconsistencies_92 : decode cX12_inconsistencies 92 = .ok (.iconst 0, 1) := by decide +kernel
theorem dX12_inconsistencies_93 : decode cX12_inconsistencies 93 = .ok (.istore_n 3, 1) := by decide +kernel
theorem dX12_inconsistencies_94 : decode cX12_inconsistencies 94 = .ok (.iinc 4 1, 3) := by decide +kernel
theorem dX12_inconsistencies_97 : decode cX12_inconsistencies 97 = .ok (.goto (-44), 3) := by decide +kernel
theorem dX12_inconsistencies_100 : decode cX12_inconsistencies 100 = .ok (.iload_n 1, 1) := by decide +kernel
theorem dX12_inconsistencies_101 : decode cX12_inconsistencies 101 = .ok (.aload_n 0, 1) := by decide +kernel
theorem dX12_inconsistencies_102 : decode cX12_inconsistencies 102 = .ok (.iload_n 2, 1) := by decide +kernel
theorem dX12_inconsistencies_103 : decode cX12_inconsistencies 103 = .ok (.bipush 17, 2) := by decide +kernel
theorem dX12_inconsistencies_105 : decode cX12_inconsistencies 105 = .ok (.invokevirtual 95, 3) := by decide +kernel
theorem dX12_inconsistencies_108 : decode cX12_inconsistencies 108 = .ok (.iconst 1, 1) := by decide +kernel
theorem dX12_inconsistencies_109 : decode cX12_inconsistencies 109 = .ok (.if_icmp .ne 11, 3) := by decide +kernel
theorem dX12_inconsistencies_112 : decode cX12_inconsistencies 112 = .ok (.iload_n 3, 1) := by decide +kernel
theorem dX12_inconsistencies_113 : decode cX12_inconsistencies 113 = .ok (.ifCond .eq 7, 3) := by decide +kernel
theorem dX12_inconsistencies_116 : decode cX12_inconsistencies 116 = .ok (.iconst 1, 1) := by decide +kernel
theorem dX12_inconsistencies_117 : decode cX12_inconsistencies 117 = .ok (.goto 4, 3) := by decide +kernel
theorem dX12_inconsistencies_120 : decode cX12_inconsistencies 120 = .ok (.iconst 0, 1) := by decide +kernel
theorem dX12_inconsistencies_121 : decode cX12_inconsistencies 121 = .ok (.iadd, 1) := by decide +kernel
theorem dX12_inconsistencies_122 : decode cX12_inconsistencies 122 = .ok (.istore_n 1, 1) := by decide +kernel
theorem dX12_inconsistencies_123 : decode cX12_inconsistencies 123 = .ok (.iinc 2 1, 3) := by decide +kernel
theorem dX12_inconsistencies_126 : decode cX12_inconsistencies 126 = .ok (.goto (-89), 3) := by decide +kernel
theorem dX12_inconsistencies_129 : decode cX12_inconsistencies 129 = .ok (.iload_n 1, 1) := by decide +kernel
theorem dX12_inconsistencies_130 : decode cX12_inconsistencies 130 = .ok (.ireturn, 1) := by decide +kernel
set_option maxRecDepth 20000 in
theorem ggX12_pass_X12_in : GoodIn wsX12_pass wsX12_in := goodIn_r _ [5] rfl (by decide +kernel)
set_option maxRecDepth 20000 in
theorem gX12_pass_X12_in : GoodIn wsX12_pass (va_wsS RX12 87 yX12_in wsX12_in) := goodIn_app (goodIn_of _ (by decide +kernel)) ggX12_pass_X12_in
set_option maxRecDepth 20000 in
theorem ggX12_pass_X12_fails : GoodIn wsX12_pass wsX12_fails := goodIn_r _ [9, 10, 102, 103, 104, 105, 106, 107, 108, 109, 110, 111, 112, 113, 114, 115, 116, 117, 118, 119, 120] rfl (by decide +kernel)
set_option maxRecDepth 20000 in
theorem gX12_pass_X12_fails : GoodIn wsX12_pass (wsV RX12 167 RX12 yX12_fails wsX12_fails) := goodIn_app (goodIn_of _ (by decide +kernel)) ggX12_pass_X12_fails
set_option maxRecDepth 20000 in
theorem ggX12_pass_X12_remember : GoodIn wsX12_pass wsX12_remember := goodIn_r _ [14, 15, 16, 17, 18, 4, 19, 1, 102, 103, 104, 105, 106, 107, 108, 109, 110, 111, 112, 113, 114, 115, 116, 117, 118, 119, 120] rfl (by decide +kernel)
set_option maxRecDepth 20000 in
theorem gX12_pass_X12_remember : GoodIn wsX12_pass (wsV RX12 289 RX12 yX12_remember wsX12_remember) := goodIn_app (goodIn_of _ (by decide +kernel)) ggX12_pass_X12_remember
set_option maxRecDepth 20000 in
theorem ggX12_pass_X12_passMinutes : GoodIn wsX12_pass wsX12_passMinutes := goodIn_r _ [23, 1, 24, 25, 26, 4, 27, 28, 29, 30, 31, 32, 33, 34, 35, 36, 37, 38, 39, 40, 41, 42, 43, 44, 45, 46, 47, 48, 49, 50, 51, 52, 53, 54, 55, 56, 57, 58, 59, 60, 61, 62, 63, 64, 65, 66, 67, 68, 69, 70, 71, 72, 73, 74, 75, 76, 77, 78, 79, 80, 81, 82, 83, 84, 85, 86, 87, 88, 89, 90, 91, 92, 93, 94, 95, 96, 97, 98, 99, 100, 101, 102, 103, 104, 105, 106, 107, 108, 109, 110, 111, 112, 113, 114, 115, 116, 117, 118, 119, 120] rfl (by decide +kernel)
set_option maxRecDepth 20000 in
theorem gX12_pass_X12_passMinutes : GoodIn wsX12_pass (wsV RX12 277 RX12 yX12_passMinutes wsX12_passMinutes) := goodIn_app (goodIn_of _ (by decide +kernel)) ggX12_pass_X12_passMinutes
theorem dX12_pass_0 : decode cX12_pass 0 = .ok (.iload_n 1, 1) := by decide +kernel
theorem dX12_pass_1 : decode cX12_pass 1 = .ok (.iconst 1, 1) := by decide +kernel
theorem dX12_pass_2 : decode cX12_pass 2 = .ok (.sipush 200, 3) := by decide +kernel
theorem dX12_pass_5 : decode cX12_pass 5 = .ok (.invokestatic 87, 3) := by decide +kernel
theorem dX12_pass_8 : decode cX12_pass 8 = .ok (.istore_n 2, 1) := by decide +kernel
theorem dX12_pass_9 : decode cX12_pass 9 = .ok (.aload_n 0, 1) := by decide +kernel
theorem dX12_pass_10 : decode cX12_pass 10 = .ok (.iload_n 2, 1) := by decide +kernel
theorem dX12_pass_11 : decode cX12_pass 11 = .ok (.ifCond .ne 7, 3) := by decide +kernel
theorem dX12_pass_14 : decode cX12_pass 14 = .ok (.iconst 1, 1) := by decide +kernel
theorem dX12_pass_15 : decode cX12_pass 15 = .ok (.goto 4, 3) := by decide +kernel
theorem dX12_pass_18 : decode cX12_pass 18 = .ok (.iconst 0, 1) := by decide +kernel
theorem dX12_pass_19 : decode cX12_pass 19 = .ok (.iload_n 2, 1) := by decide +kernel
theorem dX12_pass_20 : decode cX12_pass 20 = .ok (.ifCond .eq 21, 3) := by decide +kernel
theorem dX12_pass_23 : decode cX12_pass 23 = .ok (.aload_n 0, 1) := by decide +kernel
theorem dX12_pass_24 : decode cX12_pass 24 = .ok (.getfield 13, 3) := by decide +kernel
theorem dX12_pass_27 : decode cX12_pass 27 = .ok (.iconst 4, 1) := by decide +kernel
theorem dX12_pass_28 : decode cX12_pass 28 = .ok (.iaload, 1) := by decide +kernel
theorem dX12_pass_29 : decode cX12_pass 29 = .ok (.iload_n 1, 1) := by decide +kernel
theorem dX12_pass_30 : decode cX12_pass 30 = .ok (.iadd, 1) := by decide +kernel
theorem dX12_pass_31 : decode cX12_pass 31 = .ok (.sipush 9999, 3) := by decide +kernel
theorem dX12_pass_34 : decode cX12_pass 34 = .ok (.if_icmp .le 7, 3) := by decide +kernel
theorem dX12_pass_37 : decode cX12_pass 37 = .ok (.iconst 1, 1) := by decide +kernel
theorem dX12_pass_38 : decode cX12_pass 38 = .ok (.goto 4, 3) := by decide +kernel
theorem dX12_pass_41 : decode cX12_pass 41 = .ok (.iconst 0, 1) := by decide +kernel
theorem dX12_pass_42 : decode cX12_pass 42 = .ok (.iconst 0, 1) := by decide +kernel
theorem dX12_pass_43 : decode cX12_pass 43 = .ok (.invokevirtual 167, 3) := by decide +kernel
theorem dX12_pass_46 : decode cX12_pass 46 = .ok (.ifCond .eq 5, 3) := by decide +kernel
theorem dX12_pass_49 : decode cX12_pass 49 = .ok (.iconst 0, 1) := by decide +kernel
theorem dX12_pass_50 : decode cX12_pass 50 = .ok (.ireturn, 1) := by decide +kernel
theorem dX12_pass_51 : decode cX12_pass 51 = .ok (.aload_n 0, 1) := by decide +kernel
theorem dX12_pass_52 : decode cX12_pass 52 = .ok (.iconst 0, 1) := by decide +kernel
theorem dX12_pass_53 : decode cX12_pass 53 = .ok (.invokevirtual 289, 3) := by decide +kernel
theorem dX12_pass_56 : decode cX12_pass 56 = .ok (.aload_n 0, 1) := by decide +kernel
theorem dX12_pass_57 : decode cX12_pass 57 = .ok (.iload_n 1, 1) := by decide +kernel
theorem dX12_pass_58 : decode cX12_pass 58 = .ok (.invokevirtual 277, 3) := by decide +kernel
theorem dX12_pass_61 : decode cX12_pass 61 = .ok (.ireturn, 1) := by decide +kernel
set_option maxRecDepth 20000 in
theorem ggX12_addSalt_X12_in : GoodIn wsX12_addSalt wsX12_in := goodIn_r _ [5] rfl (by decide +kernel)
set_option maxRecDepth 20000 in
theorem gX12_addSalt_X12_in : GoodIn wsX12_addSalt (va_wsS RX12 87 yX12_in wsX12_in) := goodIn_app (goodIn_of _ (by decide +kernel)) ggX12_addSalt_X12_in
set_option maxRecDepth 20000 in
theorem ggX12_addSalt_X12_fails : GoodIn wsX12_addSalt wsX12_fails := goodIn_r _ [9, 10, 28, 29, 30, 31, 32, 33, 34, 35, 36, 37, 38, 39, 40, 41, 42, 43, 44, 45, 46] rfl (by decide +kernel)
set_option maxRecDepth 20000 in
theorem gX12_addSalt_X12_fails : GoodIn wsX12_addSalt (wsV RX12 167 RX12 yX12_fails wsX12_fails) := goodIn_app (goodIn_of _ (by decide +kernel)) ggX12_addSalt_X12_fails
set_option maxRecDepth 20000 in
theorem ggX12_addSalt_X12_remember : GoodIn wsX12_addSalt wsX12_remember := goodIn_r _ [14, 15, 16, 17, 18, 4, 19, 1, 28, 29, 30, 31, 32, 33, 34, 35, 36, 37, 38, 39, 40, 41, 42, 43, 44, 45, 46] rfl (by decide +kernel)
set_option maxRecDepth 20000 in
theorem gX12_addSalt_X12_remember : GoodIn wsX12_addSalt (wsV RX12 289 RX12 yX12_remember wsX12_remember) := goodIn_app (goodIn_of _ (by decide +kernel)) ggX12_addSalt_X12_remember
set_option maxRecDepth 20000 in
theorem ggX12_addSalt_X12_tasteNow : GoodIn wsX12_addSalt wsX12_tasteNow := goodIn_r _ [23, 1, 24, 25, 26, 4, 27, 28, 29, 30, 31, 32, 33, 34, 35, 36, 37, 38, 39, 40, 41, 42, 43, 44, 45, 46] rfl (by decide +kernel)
set_option maxRecDepth 20000 in
theorem gX12_addSalt_X12_tasteNow : GoodIn wsX12_addSalt (wsV RX12 164 RX12 yX12_tasteNow wsX12_tasteNow) := goodIn_app (goodIn_of _ (by decide +kernel)) ggX12_addSalt_X12_tasteNow
theorem dX12_addSalt_0 : decode cX12_addSalt 0 = .ok (.aload_n 0, 1) := by decide +kernel
theorem dX12_addSalt_1 : decode cX12_addSalt 1 = .ok (.iload_n 1, 1) := by decide +kernel
theorem dX12_addSalt_2 : decode cX12_addSalt 2 = .ok (.bipush (-9), 2) := by decide +kernel
theorem dX12_addSalt_4 : decode cX12_addSalt 4 = .ok (.bipush 9, 2) := by decide +kernel
theorem dX12_addSalt_6 : decode cX12_addSalt 6 = .ok (.invokestatic 87, 3) := by decide +kernel
theorem dX12_addSalt_9 : decode cX12_addSalt 9 = .ok (.ifCond .eq 7, 3) := by decide +kernel
theorem dX12_addSalt_12 : decode cX12_addSalt 12 = .ok (.iload_n 1, 1) := by decide +kernel
theorem dX12_addSalt_13 : decode cX12_addSalt 13 = .ok (.ifCond .ne 7, 3) := by decide +kernel
theorem dX12_addSalt_16 : decode cX12_addSalt 16 = .ok (.iconst 1, 1) := by decide +kernel
theorem dX12_addSalt_17 : decode cX12_addSalt 17 = .ok (.goto 4, 3) := by decide +kernel
theorem dX12_addSalt_20 : decode cX12_addSalt 20 = .ok (.iconst 0, 1) := by decide +kernel
theorem dX12_addSalt_21 : decode cX12_addSalt 21 = .ok (.aload_n 0, 1) := by decide +kernel
theorem dX12_addSalt_22 : decode cX12_addSalt 22 = .ok (.getfield 13, 3) := by decide +kernel
theorem dX12_addSalt_25 : decode cX12_addSalt 25 = .ok (.bipush 6, 2) := by decide +kernel
theorem dX12_addSalt_27 : decode cX12_addSalt 27 = .ok (.iaload, 1) := by decide +kernel
theorem dX12_addSalt_28 : decode cX12_addSalt 28 = .ok (.iconst 1, 1) := by decide +kernel
theorem dX12_addSalt_29 : decode cX12_addSalt 29 = .ok (.if_icmp .ne 7, 3) := by decide +kernel
theorem dX12_addSalt_32 : decode cX12_addSalt 32 = .ok (.iconst 1, 1) := by decide +kernel
theorem dX12_addSalt_33 : decode cX12_addSalt 33 = .ok (.goto 4, 3) := by decide +kernel
theorem dX12_addSalt_36 : decode cX12_addSalt 36 = .ok (.iconst 0, 1) := by decide +kernel
theorem dX12_addSalt_37 : decode cX12_addSalt 37 = .ok (.iconst 0, 1) := by decide +kernel
theorem dX12_addSalt_38 : decode cX12_addSalt 38 = .ok (.invokevirtual 167, 3) := by decide +kernel
theorem dX12_addSalt_41 : decode cX12_addSalt 41 = .ok (.ifCond .eq 5, 3) := by decide +kernel
theorem dX12_addSalt_44 : decode cX12_addSalt 44 = .ok (.iconst 0, 1) := by decide +kernel
theorem dX12_addSalt_45 : decode cX12_addSalt 45 = .ok (.ireturn, 1) := by decide +kernel
theorem dX12_addSalt_46 : decode cX12_addSalt 46 = .ok (.aload_n 0, 1) := by decide +kernel
theorem dX12_addSalt_47 : decode cX12_addSalt 47 = .ok (.iconst 0, 1) := by decide +kernel
theorem dX12_addSalt_48 : decode cX12_addSalt 48 = .ok (.invokevirtual 289, 3) := by decide +kernel
theorem dX12_addSalt_51 : decode cX12_addSalt 51 = .ok (.aload_n 0, 1) := by decide +kernel
theorem dX12_addSalt_52 : decode cX12_addSalt 52 = .ok (.getfield 13, 3) := by decide +kernel
theorem dX12_addSalt_55 : decode cX12_addSalt 55 = .ok (.iconst 5, 1) := by decide +kernel
theorem dX12_addSalt_56 : decode cX12_addSalt 56 = .ok (.dup2, 1) := by decide +kernel
theorem dX12_addSalt_57 : decode cX12_addSalt 57 = .ok (.iaload, 1) := by decide +kernel
theorem dX12_addSalt_58 : decode cX12_addSalt 58 = .ok (.iload_n 1, 1) := by decide +kernel
theorem dX12_addSalt_59 : decode cX12_addSalt 59 = .ok (.iadd, 1) := by decide +kernel
theorem dX12_addSalt_60 : decode cX12_addSalt 60 = .ok (.iastore, 1) := by decide +kernel
theorem dX12_addSalt_61 : decode cX12_addSalt 61 = .ok (.aload_n 0, 1) := by decide +kernel
theorem dX12_addSalt_62 : decode cX12_addSalt 62 = .ok (.invokevirtual 164, 3) := by decide +kernel
theorem dX12_addSalt_65 : decode cX12_addSalt 65 = .ok (.ireturn, 1) := by decide +kernel
set_option maxRecDepth 20000 in
theorem ggX12_stop_X12_isStep : GoodIn wsX12_stop wsX12_isStep := goodIn_r _ [5, 6, 7, 8, 4, 9, 36, 37, 38, 39, 40, 41, 42, 43, 44, 45, 46, 47, 48, 49, 50, 51, 52, 53, 54] rfl (by decide +kernel)
set_option maxRecDepth 20000 in
theorem gX12_stop_X12_isStep : GoodIn wsX12_stop (wsV RX12 304 RX12 yX12_isStep wsX12_isStep) := goodIn_app (goodIn_of _ (by decide +kernel)) ggX12_stop_X12_isStep
set_option maxRecDepth 20000 in
theorem ggX12_stop_X12_of : GoodIn wsX12_stop wsX12_of := goodIn_r _ [13, 6, 36, 37, 38, 39, 40, 41, 42, 43, 44, 45, 46, 47, 48, 49, 50, 51, 52, 53, 54] rfl (by decide +kernel)
set_option maxRecDepth 20000 in
theorem gX12_stop_X12_of : GoodIn wsX12_stop (wsV RX12 95 RX12 yX12_of wsX12_of) := goodIn_app (goodIn_of _ (by decide +kernel)) ggX12_stop_X12_of
set_option maxRecDepth 20000 in
theorem ggX12_stop_X12_fails : GoodIn wsX12_stop wsX12_fails := goodIn_r _ [17, 18, 36, 37, 38, 39, 40, 41, 42, 43, 44, 45, 46, 47, 48, 49, 50, 51, 52, 53, 54] rfl (by decide +kernel)
set_option maxRecDepth 20000 in
theorem gX12_stop_X12_fails : GoodIn wsX12_stop (wsV RX12 167 RX12 yX12_fails wsX12_fails) := goodIn_app (goodIn_of _ (by decide +kernel)) ggX12_stop_X12_fails
set_option maxRecDepth 20000 in
theorem ggX12_stop_X12_remember : GoodIn wsX12_stop wsX12_remember := goodIn_r _ [22, 23, 24, 25, 26, 4, 27, 6, 36, 37, 38, 39, 40, 41, 42, 43, 44, 45, 46, 47, 48, 49, 50, 51, 52, 53, 54] rfl (by decide +kernel)
set_option maxRecDepth 20000 in
theorem gX12_stop_X12_remember : GoodIn wsX12_stop (wsV RX12 289 RX12 yX12_remember wsX12_remember) := goodIn_app (goodIn_of _ (by decide +kernel)) ggX12_stop_X12_remember
set_option maxRecDepth 20000 in
theorem ggX12_stop_X12_stopIt : GoodIn wsX12_stop wsX12_stopIt := goodIn_r _ [31, 6, 10, 11, 12, 4, 13, 32, 33, 34, 35, 36, 37, 38, 39, 40, 41, 42, 43, 44, 45, 46, 47, 48, 49, 50, 51, 52, 53, 54] rfl (by decide +kernel)
set_option maxRecDepth 20000 in
theorem gX12_stop_X12_stopIt : GoodIn wsX12_stop (wsV RX12 280 RX12 yX12_stopIt wsX12_stopIt) := goodIn_app (goodIn_of _ (by decide +kernel)) ggX12_stop_X12_stopIt
theorem dX12_stop_0 : decode cX12_stop 0 = .ok (.aload_n 0, 1) := by decide +kernel
theorem dX12_stop_1 : decode cX12_stop 1 = .ok (.iload_n 1, 1) := by decide +kernel
theorem dX12_stop_2 : decode cX12_stop 2 = .ok (.invokevirtual 304, 3) := by decide +kernel
theorem dX12_stop_5 : decode cX12_stop 5 = .ok (.istore_n 2, 1) := by decide +kernel
theorem dX12_stop_6 : decode cX12_stop 6 = .ok (.aload_n 0, 1) := by decide +kernel
theorem dX12_stop_7 : decode cX12_stop 7 = .ok (.iload_n 2, 1) := by decide +kernel
theorem dX12_stop_8 : decode cX12_stop 8 = .ok (.ifCond .ne 7, 3) := by decide +kernel
theorem dX12_stop_11 : decode cX12_stop 11 = .ok (.iconst 1, 1) := by decide +kernel
theorem dX12_stop_12 : decode cX12_stop 12 = .ok (.goto 4, 3) := by decide +kernel
theorem dX12_stop_15 : decode cX12_stop 15 = .ok (.iconst 0, 1) := by decide +kernel
theorem dX12_stop_16 : decode cX12_stop 16 = .ok (.iload_n 2, 1) := by decide +kernel
theorem dX12_stop_17 : decode cX12_stop 17 = .ok (.ifCond .eq 18, 3) := by decide +kernel
theorem dX12_stop_20 : decode cX12_stop 20 = .ok (.aload_n 0, 1) := by decide +kernel
theorem dX12_stop_21 : decode cX12_stop 21 = .ok (.iload_n 1, 1) := by decide +kernel
theorem dX12_stop_22 : decode cX12_stop 22 = .ok (.bipush 17, 2) := by decide +kernel
theorem dX12_stop_24 : decode cX12_stop 24 = .ok (.invokevirtual 95, 3) := by decide +kernel
theorem dX12_stop_27 : decode cX12_stop 27 = .ok (.iconst 1, 1) := by decide +kernel
theorem dX12_stop_28 : decode cX12_stop 28 = .ok (.if_icmp .eq 7, 3) := by decide +kernel
theorem dX12_stop_31 : decode cX12_stop 31 = .ok (.iconst 1, 1) := by decide +kernel
theorem dX12_stop_32 : decode cX12_stop 32 = .ok (.goto 4, 3) := by decide +kernel
theorem dX12_stop_35 : decode cX12_stop 35 = .ok (.iconst 0, 1) := by decide +kernel
theorem dX12_stop_36 : decode cX12_stop 36 = .ok (.iconst 0, 1) := by decide +kernel
theorem dX12_stop_37 : decode cX12_stop 37 = .ok (.invokevirtual 167, 3) := by decide +kernel
theorem dX12_stop_40 : decode cX12_stop 40 = .ok (.ifCond .eq 5, 3) := by decide +kernel
theorem dX12_stop_43 : decode cX12_stop 43 = .ok (.iconst 0, 1) := by decide +kernel
theorem dX12_stop_44 : decode cX12_stop 44 = .ok (.ireturn, 1) := by decide +kernel
theorem dX12_stop_45 : decode cX12_stop 45 = .ok (.aload_n 0, 1) := by decide +kernel
theorem dX12_stop_46 : decode cX12_stop 46 = .ok (.iconst 0, 1) := by decide +kernel
theorem dX12_stop_47 : decode cX12_stop 47 = .ok (.invokevirtual 289, 3) := by decide +kernel
theorem dX12_stop_50 : decode cX12_stop 50 = .ok (.aload_n 0, 1) := by decide +kernel
theorem dX12_stop_51 : decode cX12_stop 51 = .ok (.iload_n 1, 1) := by decide +kernel
theorem dX12_stop_52 : decode cX12_stop 52 = .ok (.invokevirtual 280, 3) := by decide +kernel
theorem dX12_stop_55 : decode cX12_stop 55 = .ok (.ireturn, 1) := by decide +kernel
set_option maxRecDepth 20000 in
theorem ggX12_redo_X12_isStep : GoodIn wsX12_redo wsX12_isStep := goodIn_r _ [5, 6, 7, 8, 4, 9, 52, 53, 54, 55, 56, 57, 58, 59, 60, 61, 62, 63, 64, 65, 66, 67, 68, 69, 70] rfl (by decide +kernel)
set_option maxRecDepth 20000 in
theorem gX12_redo_X12_isStep : GoodIn wsX12_redo (wsV RX12 304 RX12 yX12_isStep wsX12_isStep) := goodIn_app (goodIn_of _ (by decide +kernel)) ggX12_redo_X12_isStep
set_option maxRecDepth 20000 in
theorem ggX12_redo_X12_canRedo : GoodIn wsX12_redo wsX12_canRedo := goodIn_r _ [13, 6, 14, 15, 16, 4, 17, 18, 19, 20, 21, 22, 23, 24, 25, 26, 27, 28, 29, 52, 53, 54, 55, 56, 57, 58, 59, 60, 61, 62, 63, 64, 65, 66, 67, 68, 69, 70] rfl (by decide +kernel)
set_option maxRecDepth 20000 in
theorem gX12_redo_X12_canRedo : GoodIn wsX12_redo (wsV RX12 271 RX12 yX12_canRedo wsX12_canRedo) := goodIn_app (goodIn_of _ (by decide +kernel)) ggX12_redo_X12_canRedo
set_option maxRecDepth 20000 in
theorem ggX12_redo_X12_fails : GoodIn wsX12_redo wsX12_fails := goodIn_r _ [33, 34, 52, 53, 54, 55, 56, 57, 58, 59, 60, 61, 62, 63, 64, 65, 66, 67, 68, 69, 70] rfl (by decide +kernel)
set_option maxRecDepth 20000 in
theorem gX12_redo_X12_fails : GoodIn wsX12_redo (wsV RX12 167 RX12 yX12_fails wsX12_fails) := goodIn_app (goodIn_of _ (by decide +kernel)) ggX12_redo_X12_fails
set_option maxRecDepth 20000 in
theorem ggX12_redo_X12_remember : GoodIn wsX12_redo wsX12_remember := goodIn_r _ [38, 39, 40, 41, 42, 4, 43, 6, 52, 53, 54, 55, 56, 57, 58, 59, 60, 61, 62, 63, 64, 65, 66, 67, 68, 69, 70] rfl (by decide +kernel)
set_option maxRecDepth 20000 in
theorem gX12_redo_X12_remember : GoodIn wsX12_redo (wsV RX12 289 RX12 yX12_remember wsX12_remember) := goodIn_app (goodIn_of _ (by decide +kernel)) ggX12_redo_X12_remember
set_option maxRecDepth 20000 in
theorem ggX12_redo_X12_redoIt : GoodIn wsX12_redo wsX12_redoIt := goodIn_r _ [47, 14, 15, 16, 4, 17, 6, 48, 49, 50, 51, 52, 53, 54, 55, 56, 57, 58, 59, 60, 61, 62, 63, 64, 65, 66, 67, 68, 69, 70] rfl (by decide +kernel)
set_option maxRecDepth 20000 in
theorem gX12_redo_X12_redoIt : GoodIn wsX12_redo (wsV RX12 283 RX12 yX12_redoIt wsX12_redoIt) := goodIn_app (goodIn_of _ (by decide +kernel)) ggX12_redo_X12_redoIt
theorem dX12_redo_0 : decode cX12_redo 0 = .ok (.aload_n 0, 1) := by decide +kernel
theorem dX12_redo_1 : decode cX12_redo 1 = .ok (.iload_n 1, 1) := by decide +kernel
theorem dX12_redo_2 : decode cX12_redo 2 = .ok (.invokevirtual 304, 3) := by decide +kernel
theorem dX12_redo_5 : decode cX12_redo 5 = .ok (.istore_n 2, 1) := by decide +kernel
theorem dX12_redo_6 : decode cX12_redo 6 = .ok (.aload_n 0, 1) := by decide +kernel
theorem dX12_redo_7 : decode cX12_redo 7 = .ok (.iload_n 2, 1) := by decide +kernel
theorem dX12_redo_8 : decode cX12_redo 8 = .ok (.ifCond .ne 7, 3) := by decide +kernel
theorem dX12_redo_11 : decode cX12_redo 11 = .ok (.iconst 1, 1) := by decide +kernel
theorem dX12_redo_12 : decode cX12_redo 12 = .ok (.goto 4, 3) := by decide +kernel
theorem dX12_redo_15 : decode cX12_redo 15 = .ok (.iconst 0, 1) := by decide +kernel
theorem dX12_redo_16 : decode cX12_redo 16 = .ok (.iload_n 2, 1) := by decide +kernel
theorem dX12_redo_17 : decode cX12_redo 17 = .ok (.ifCond .eq 15, 3) := by decide +kernel
theorem dX12_redo_20 : decode cX12_redo 20 = .ok (.aload_n 0, 1) := by decide +kernel
theorem dX12_redo_21 : decode cX12_redo 21 = .ok (.iload_n 1, 1) := by decide +kernel
theorem dX12_redo_22 : decode cX12_redo 22 = .ok (.invokevirtual 271, 3) := by decide +kernel
theorem dX12_redo_25 : decode cX12_redo 25 = .ok (.ifCond .ne 7, 3) := by decide +kernel
theorem dX12_redo_28 : decode cX12_redo 28 = .ok (.iconst 1, 1) := by decide +kernel
theorem dX12_redo_29 : decode cX12_redo 29 = .ok (.goto 4, 3) := by decide +kernel
theorem dX12_redo_32 : decode cX12_redo 32 = .ok (.iconst 0, 1) := by decide +kernel
theorem dX12_redo_33 : decode cX12_redo 33 = .ok (.iconst 0, 1) := by decide +kernel
theorem dX12_redo_34 : decode cX12_redo 34 = .ok (.invokevirtual 167, 3) := by decide +kernel
theorem dX12_redo_37 : decode cX12_redo 37 = .ok (.ifCond .eq 5, 3) := by decide +kernel
theorem dX12_redo_40 : decode cX12_redo 40 = .ok (.iconst 0, 1) := by decide +kernel
theorem dX12_redo_41 : decode cX12_redo 41 = .ok (.ireturn, 1) := by decide +kernel
theorem dX12_redo_42 : decode cX12_redo 42 = .ok (.aload_n 0, 1) := by decide +kernel
theorem dX12_redo_43 : decode cX12_redo 43 = .ok (.iconst 0, 1) := by decide +kernel
theorem dX12_redo_44 : decode cX12_redo 44 = .ok (.invokevirtual 289, 3) := by decide +kernel
theorem dX12_redo_47 : decode cX12_redo 47 = .ok (.aload_n 0, 1) := by decide +kernel
theorem dX12_redo_48 : decode cX12_redo 48 = .ok (.iload_n 1, 1) := by decide +kernel
theorem dX12_redo_49 : decode cX12_redo 49 = .ok (.invokevirtual 283, 3) := by decide +kernel
theorem dX12_redo_52 : decode cX12_redo 52 = .ok (.ireturn, 1) := by decide +kernel
set_option maxRecDepth 20000 in
theorem ggX12_setCooks_X12_in : GoodIn wsX12_setCooks wsX12_in := goodIn_r _ [5] rfl (by decide +kernel)
set_option maxRecDepth 20000 in
theorem gX12_setCooks_X12_in : GoodIn wsX12_setCooks (va_wsS RX12 87 yX12_in wsX12_in) := goodIn_app (goodIn_of _ (by decide +kernel)) ggX12_setCooks_X12_in
set_option maxRecDepth 20000 in
theorem ggX12_setCooks_X12_fails : GoodIn wsX12_setCooks wsX12_fails := goodIn_r _ [9, 10, 20, 21, 22, 23, 24, 25, 26, 27, 28, 29, 30, 31, 32, 33, 34, 35, 36, 37, 38] rfl (by decide +kernel)
set_option maxRecDepth 20000 in
theorem gX12_setCooks_X12_fails : GoodIn wsX12_setCooks (wsV RX12 167 RX12 yX12_fails wsX12_fails) := goodIn_app (goodIn_of _ (by decide +kernel)) ggX12_setCooks_X12_fails
set_option maxRecDepth 20000 in
theorem ggX12_setCooks_X12_remember : GoodIn wsX12_setCooks wsX12_remember := goodIn_r _ [14, 15, 16, 17, 18, 4, 19, 1, 20, 21, 22, 23, 24, 25, 26, 27, 28, 29, 30, 31, 32, 33, 34, 35, 36, 37, 38] rfl (by decide +kernel)
set_option maxRecDepth 20000 in
theorem gX12_setCooks_X12_remember : GoodIn wsX12_setCooks (wsV RX12 289 RX12 yX12_remember wsX12_remember) := goodIn_app (goodIn_of _ (by decide +kernel)) ggX12_setCooks_X12_remember
theorem dX12_setCooks_0 : decode cX12_setCooks 0 = .ok (.aload_n 0, 1) := by decide +kernel
theorem dX12_setCooks_1 : decode cX12_setCooks 1 = .ok (.iload_n 1, 1) := by decide +kernel
theorem dX12_setCooks_2 : decode cX12_setCooks 2 = .ok (.iconst 1, 1) := by decide +kernel
theorem dX12_setCooks_3 : decode cX12_setCooks 3 = .ok (.iconst 4, 1) := by decide +kernel
theorem dX12_setCooks_4 : decode cX12_setCooks 4 = .ok (.invokestatic 87, 3) := by decide +kernel
theorem dX12_setCooks_7 : decode cX12_setCooks 7 = .ok (.ifCond .ne 7, 3) := by decide +kernel
theorem dX12_setCooks_10 : decode cX12_setCooks 10 = .ok (.iconst 1, 1) := by decide +kernel
theorem dX12_setCooks_11 : decode cX12_setCooks 11 = .ok (.goto 4, 3) := by decide +kernel
theorem dX12_setCooks_14 : decode cX12_setCooks 14 = .ok (.iconst 0, 1) := by decide +kernel
theorem dX12_setCooks_15 : decode cX12_setCooks 15 = .ok (.iconst 0, 1) := by decide +kernel
theorem dX12_setCooks_16 : decode cX12_setCooks 16 = .ok (.iconst 0, 1) := by decide +kernel
theorem dX12_setCooks_17 : decode cX12_setCooks 17 = .ok (.invokevirtual 167, 3) := by decide +kernel
theorem dX12_setCooks_20 : decode cX12_setCooks 20 = .ok (.ifCond .eq 5, 3) := by decide +kernel
theorem dX12_setCooks_23 : decode cX12_setCooks 23 = .ok (.iconst 0, 1) := by decide +kernel
theorem dX12_setCooks_24 : decode cX12_setCooks 24 = .ok (.ireturn, 1) := by decide +kernel
theorem dX12_setCooks_25 : decode cX12_setCooks 25 = .ok (.aload_n 0, 1) := by decide +kernel
theorem dX12_setCooks_26 : decode cX12_setCooks 26 = .ok (.iconst 0, 1) := by decide +kernel
theorem dX12_setCooks_27 : decode cX12_setCooks 27 = .ok (.invokevirtual 289, 3) := by decide +kernel
theorem dX12_setCooks_30 : decode cX12_setCooks 30 = .ok (.aload_n 0, 1) := by decide +kernel
theorem dX12_setCooks_31 : decode cX12_setCooks 31 = .ok (.getfield 13, 3) := by decide +kernel
theorem dX12_setCooks_34 : decode cX12_setCooks 34 = .ok (.iconst 0, 1) := by decide +kernel
theorem dX12_setCooks_35 : decode cX12_setCooks 35 = .ok (.iaload, 1) := by decide +kernel
theorem dX12_setCooks_36 : decode cX12_setCooks 36 = .ok (.istore_n 2, 1) := by decide +kernel
theorem dX12_setCooks_37 : decode cX12_setCooks 37 = .ok (.aload_n 0, 1) := by decide +kernel
theorem dX12_setCooks_38 : decode cX12_setCooks 38 = .ok (.getfield 13, 3) := by decide +kernel
theorem dX12_setCooks_41 : decode cX12_setCooks 41 = .ok (.iconst 0, 1) := by decide +kernel
theorem dX12_setCooks_42 : decode cX12_setCooks 42 = .ok (.iload_n 1, 1) := by decide +kernel
theorem dX12_setCooks_43 : decode cX12_setCooks 43 = .ok (.iastore, 1) := by decide +kernel
theorem dX12_setCooks_44 : decode cX12_setCooks 44 = .ok (.iload_n 2, 1) := by decide +kernel
theorem dX12_setCooks_45 : decode cX12_setCooks 45 = .ok (.ireturn, 1) := by decide +kernel
set_option maxRecDepth 20000 in
theorem ggX12_setDuration_X12_isStep : GoodIn wsX12_setDuration wsX12_isStep := goodIn_r _ [5, 6, 7, 8, 4, 9, 32, 33, 34, 35, 36, 37, 38, 39, 40, 41, 42, 43, 44, 45, 46, 47, 48, 49, 50] rfl (by decide +kernel)
set_option maxRecDepth 20000 in
theorem gX12_setDuration_X12_isStep : GoodIn wsX12_setDuration (wsV RX12 304 RX12 yX12_isStep wsX12_isStep) := goodIn_app (goodIn_of _ (by decide +kernel)) ggX12_setDuration_X12_isStep
set_option maxRecDepth 20000 in
theorem ggX12_setDuration_X12_in : GoodIn wsX12_setDuration wsX12_in := goodIn_r _ [9] rfl (by decide +kernel)
set_option maxRecDepth 20000 in
theorem gX12_setDuration_X12_in : GoodIn wsX12_setDuration (va_wsS RX12 87 yX12_in wsX12_in) := goodIn_app (goodIn_of _ (by decide +kernel)) ggX12_setDuration_X12_in
set_option maxRecDepth 20000 in
theorem ggX12_setDuration_X12_fails : GoodIn wsX12_setDuration wsX12_fails := goodIn_r _ [13, 14, 32, 33, 34, 35, 36, 37, 38, 39, 40, 41, 42, 43, 44, 45, 46, 47, 48, 49, 50] rfl (by decide +kernel)
set_option maxRecDepth 20000 in
theorem gX12_setDuration_X12_fails : GoodIn wsX12_setDuration (wsV RX12 167 RX12 yX12_fails wsX12_fails) := goodIn_app (goodIn_of _ (by decide +kernel)) ggX12_setDuration_X12_fails
set_option maxRecDepth 20000 in
theorem ggX12_setDuration_X12_remember : GoodIn wsX12_setDuration wsX12_remember := goodIn_r _ [18, 19, 20, 21, 22, 4, 23, 6, 32, 33, 34, 35, 36, 37, 38, 39, 40, 41, 42, 43, 44, 45, 46, 47, 48, 49, 50] rfl (by decide +kernel)
set_option maxRecDepth 20000 in
theorem gX12_setDuration_X12_remember : GoodIn wsX12_setDuration (wsV RX12 289 RX12 yX12_remember wsX12_remember) := goodIn_app (goodIn_of _ (by decide +kernel)) ggX12_setDuration_X12_remember
set_option maxRecDepth 20000 in
theorem ggX12_setDuration_X12_of : GoodIn wsX12_setDuration wsX12_of := goodIn_r _ [27, 6, 32, 33, 34, 35, 36, 37, 38, 39, 40, 41, 42, 43, 44, 45, 46, 47, 48, 49, 50] rfl (by decide +kernel)
set_option maxRecDepth 20000 in
theorem gX12_setDuration_X12_of : GoodIn wsX12_setDuration (wsV RX12 95 RX12 yX12_of wsX12_of) := goodIn_app (goodIn_of _ (by decide +kernel)) ggX12_setDuration_X12_of
set_option maxRecDepth 20000 in
theorem ggX12_setDuration_X12_set : GoodIn wsX12_setDuration wsX12_set := goodIn_r _ [31, 6, 32, 33, 34, 35, 36, 37, 38, 39, 40, 41, 42, 43, 44, 45, 46, 47, 48, 49, 50] rfl (by decide +kernel)
set_option maxRecDepth 20000 in
theorem gX12_setDuration_X12_set : GoodIn wsX12_setDuration (wsV RX12 126 RX12 yX12_set wsX12_set) := goodIn_app (goodIn_of _ (by decide +kernel)) ggX12_setDuration_X12_set
theorem dX12_setDuration_0 : decode cX12_setDuration 0 = .ok (.aload_n 0, 1) := by decide +kernel
theorem dX12_setDuration_1 : decode cX12_setDuration 1 = .ok (.aload_n 0, 1) := by decide +kernel
theorem dX12_setDuration_2 : decode cX12_setDuration 2 = .ok (.iload_n 1, 1) := by decide +kernel
theorem dX12_setDuration_3 : decode cX12_setDuration 3 = .ok (.invokevirtual 304, 3) := by decide +kernel
theorem dX12_setDuration_6 : decode cX12_setDuration 6 = .ok (.ifCond .ne 7, 3) := by decide +kernel
theorem dX12_setDuration_9 : decode cX12_setDuration 9 = .ok (.iconst 1, 1) := by decide +kernel
theorem dX12_setDuration_10 : decode cX12_setDuration 10 = .ok (.goto 4, 3) := by decide +kernel
theorem dX12_setDuration_13 : decode cX12_setDuration 13 = .ok (.iconst 0, 1) := by decide +kernel
theorem dX12_setDuration_14 : decode cX12_setDuration 14 = .ok (.iload_n 2, 1) := by decide +kernel
theorem dX12_setDuration_15 : decode cX12_setDuration 15 = .ok (.iconst 1, 1) := by decide +kernel
theorem dX12_setDuration_16 : decode cX12_setDuration 16 = .ok (.bipush 60, 2) := by decide +kernel
theorem dX12_setDuration_18 : decode cX12_setDuration 18 = .ok (.invokestatic 87, 3) := by decide +kernel
theorem dX12_setDuration_21 : decode cX12_setDuration 21 = .ok (.ifCond .ne 7, 3) := by decide +kernel
theorem dX12_setDuration_24 : decode cX12_setDuration 24 = .ok (.iconst 1, 1) := by decide +kernel
theorem dX12_setDuration_25 : decode cX12_setDuration 25 = .ok (.goto 4, 3) := by decide +kernel
theorem dX12_setDuration_28 : decode cX12_setDuration 28 = .ok (.iconst 0, 1) := by decide +kernel
theorem dX12_setDuration_29 : decode cX12_setDuration 29 = .ok (.iconst 0, 1) := by decide +kernel
theorem dX12_setDuration_30 : decode cX12_setDuration 30 = .ok (.invokevirtual 167, 3) := by decide +kernel
theorem dX12_setDuration_33 : decode cX12_setDuration 33 = .ok (.ifCond .eq 5, 3) := by decide +kernel
theorem dX12_setDuration_36 : decode cX12_setDuration 36 = .ok (.iconst 0, 1) := by decide +kernel
theorem dX12_setDuration_37 : decode cX12_setDuration 37 = .ok (.ireturn, 1) := by decide +kernel
theorem dX12_setDuration_38 : decode cX12_setDuration 38 = .ok (.aload_n 0, 1) := by decide +kernel
theorem dX12_setDuration_39 : decode cX12_setDuration 39 = .ok (.iconst 0, 1) := by decide +kernel
theorem dX12_setDuration_40 : decode cX12_setDuration 40 = .ok (.invokevirtual 289, 3) := by decide +kernel
theorem dX12_setDuration_43 : decode cX12_setDuration 43 = .ok (.aload_n 0, 1) := by decide +kernel
theorem dX12_setDuration_44 : decode cX12_setDuration 44 = .ok (.iload_n 1, 1) := by decide +kernel
theorem dX12_setDuration_45 : decode cX12_setDuration 45 = .ok (.bipush 7, 2) := by decide +kernel
theorem dX12_setDuration_47 : decode cX12_setDuration 47 = .ok (.invokevirtual 95, 3) := by decide +kernel
theorem dX12_setDuration_50 : decode cX12_setDuration 50 = .ok (.istore_n 3, 1) := by decide +kernel
theorem dX12_setDuration_51 : decode cX12_setDuration 51 = .ok (.aload_n 0, 1) := by decide +kernel
theorem dX12_setDuration_52 : decode cX12_setDuration 52 = .ok (.iload_n 1, 1) := by decide +kernel
theorem dX12_setDuration_53 : decode cX12_setDuration 53 = .ok (.bipush 7, 2) := by decide +kernel
theorem dX12_setDuration_55 : decode cX12_setDuration 55 = .ok (.iload_n 2, 1) := by decide +kernel
theorem dX12_setDuration_56 : decode cX12_setDuration 56 = .ok (.invokevirtual 126, 3) := by decide +kernel
theorem dX12_setDuration_59 : decode cX12_setDuration 59 = .ok (.iload_n 3, 1) := by decide +kernel
theorem dX12_setDuration_60 : decode cX12_setDuration 60 = .ok (.ireturn, 1) := by decide +kernel
set_option maxRecDepth 20000 in
theorem ggX12_serve_X12_servingReason : GoodIn wsX12_serve wsX12_servingReason := goodIn_r _ [6, 1, 7, 8, 9, 5, 10, 11, 12, 13, 14, 15, 16, 17, 18, 19, 20, 21, 22, 37, 38, 39, 40, 41, 42, 43, 44, 45, 46, 47, 48, 49, 50, 51, 52, 53, 54, 55] rfl (by decide +kernel)
set_option maxRecDepth 20000 in
theorem gX12_serve_X12_servingReason : GoodIn wsX12_serve (wsV RX12 274 RX12 yX12_servingReason wsX12_servingReason) := goodIn_app (goodIn_of _ (by decide +kernel)) ggX12_serve_X12_servingReason
set_option maxRecDepth 20000 in
theorem ggX12_serve_X12_fails : GoodIn wsX12_serve wsX12_fails := goodIn_r _ [26, 27, 37, 38, 39, 40, 41, 42, 43, 44, 45, 46, 47, 48, 49, 50, 51, 52, 53, 54, 55] rfl (by decide +kernel)
set_option maxRecDepth 20000 in
theorem gX12_serve_X12_fails : GoodIn wsX12_serve (wsV RX12 167 RX12 yX12_fails wsX12_fails) := goodIn_app (goodIn_of _ (by decide +kernel)) ggX12_serve_X12_fails
set_option maxRecDepth 20000 in
theorem ggX12_serve_X12_remember : GoodIn wsX12_serve wsX12_remember := goodIn_r _ [31, 32, 33, 34, 35, 5, 36, 1, 37, 38, 39, 40, 41, 42, 43, 44, 45, 46, 47, 48, 49, 50, 51, 52, 53, 54, 55] rfl (by decide +kernel)
set_option maxRecDepth 20000 in
theorem gX12_serve_X12_remember : GoodIn wsX12_serve (wsV RX12 289 RX12 yX12_remember wsX12_remember) := goodIn_app (goodIn_of _ (by decide +kernel)) ggX12_serve_X12_remember
set_option maxRecDepth 20000 in
theorem ggX12_serve_X12_tasteNow : GoodIn wsX12_serve wsX12_tasteNow := goodIn_r _ [22, 1, 11, 12, 13, 5, 14, 37, 38, 39, 40, 41, 42, 43, 44, 45, 46, 47, 48, 49, 50, 51, 52, 53, 54, 55] rfl (by decide +kernel)
set_option maxRecDepth 20000 in
theorem gX12_serve_X12_tasteNow : GoodIn wsX12_serve (wsV RX12 164 RX12 yX12_tasteNow wsX12_tasteNow) := goodIn_app (goodIn_of _ (by decide +kernel)) ggX12_serve_X12_tasteNow
theorem dX12_serve_0 : decode cX12_serve 0 = .ok (.aload_n 0, 1) := by decide +kernel
theorem dX12_serve_1 : decode cX12_serve 1 = .ok (.aload_n 0, 1) := by decide +kernel
theorem dX12_serve_2 : decode cX12_serve 2 = .ok (.invokevirtual 274, 3) := by decide +kernel
theorem dX12_serve_5 : decode cX12_serve 5 = .ok (.ifCond .eq 7, 3) := by decide +kernel
theorem dX12_serve_8 : decode cX12_serve 8 = .ok (.iconst 1, 1) := by decide +kernel
theorem dX12_serve_9 : decode cX12_serve 9 = .ok (.goto 4, 3) := by decide +kernel
theorem dX12_serve_12 : decode cX12_serve 12 = .ok (.iconst 0, 1) := by decide +kernel
theorem dX12_serve_13 : decode cX12_serve 13 = .ok (.iconst 0, 1) := by decide +kernel
theorem dX12_serve_14 : decode cX12_serve 14 = .ok (.iconst 0, 1) := by decide +kernel
theorem dX12_serve_15 : decode cX12_serve 15 = .ok (.invokevirtual 167, 3) := by decide +kernel
theorem dX12_serve_18 : decode cX12_serve 18 = .ok (.ifCond .eq 5, 3) := by decide +kernel
theorem dX12_serve_21 : decode cX12_serve 21 = .ok (.iconst 0, 1) := by decide +kernel
theorem dX12_serve_22 : decode cX12_serve 22 = .ok (.ireturn, 1) := by decide +kernel
theorem dX12_serve_23 : decode cX12_serve 23 = .ok (.aload_n 0, 1) := by decide +kernel
theorem dX12_serve_24 : decode cX12_serve 24 = .ok (.iconst 0, 1) := by decide +kernel
theorem dX12_serve_25 : decode cX12_serve 25 = .ok (.invokevirtual 289, 3) := by decide +kernel
theorem dX12_serve_28 : decode cX12_serve 28 = .ok (.aload_n 0, 1) := by decide +kernel
theorem dX12_serve_29 : decode cX12_serve 29 = .ok (.getfield 13, 3) := by decide +kernel
theorem dX12_serve_32 : decode cX12_serve 32 = .ok (.bipush 6, 2) := by decide +kernel
theorem dX12_serve_34 : decode cX12_serve 34 = .ok (.iconst 1, 1) := by decide +kernel
theorem dX12_serve_35 : decode cX12_serve 35 = .ok (.iastore, 1) := by decide +kernel
theorem dX12_serve_36 : decode cX12_serve 36 = .ok (.aload_n 0, 1) := by decide +kernel
theorem dX12_serve_37 : decode cX12_serve 37 = .ok (.invokevirtual 164, 3) := by decide +kernel
theorem dX12_serve_40 : decode cX12_serve 40 = .ok (.ireturn, 1) := by decide +kernel
set_option maxRecDepth 20000 in
theorem ggX12_undo_X12_fails : GoodIn wsX12_undo wsX12_fails := goodIn_r _ [6, 7, 13, 14, 15, 16, 17, 18, 19, 20, 21, 22, 23, 24, 25, 26, 27, 28, 29, 30, 31] rfl (by decide +kernel)
set_option maxRecDepth 20000 in
theorem gX12_undo_X12_fails : GoodIn wsX12_undo (wsV RX12 167 RX12 yX12_fails wsX12_fails) := goodIn_app (goodIn_of _ (by decide +kernel)) ggX12_undo_X12_fails
set_option maxRecDepth 20000 in
theorem ggX12_undo_X12_copyBlock : GoodIn wsX12_undo wsX12_copyBlock := goodIn_r _ [11, 12, 13, 14, 15, 16, 17, 18, 19, 20, 21, 22, 23, 24, 25, 26, 27, 28, 29, 30, 31] rfl (by decide +kernel)
set_option maxRecDepth 20000 in
theorem gX12_undo_X12_copyBlock : GoodIn wsX12_undo (wsV RX12 91 RX12 yX12_copyBlock wsX12_copyBlock) := goodIn_app (goodIn_of _ (by decide +kernel)) ggX12_undo_X12_copyBlock
theorem dX12_undo_0 : decode cX12_undo 0 = .ok (.aload_n 0, 1) := by decide +kernel
theorem dX12_undo_1 : decode cX12_undo 1 = .ok (.aload_n 0, 1) := by decide +kernel
theorem dX12_undo_2 : decode cX12_undo 2 = .ok (.getfield 21, 3) := by decide +kernel
theorem dX12_undo_5 : decode cX12_undo 5 = .ok (.ifCond .ne 7, 3) := by decide +kernel
theorem dX12_undo_8 : decode cX12_undo 8 = .ok (.iconst 1, 1) := by decide +kernel
theorem dX12_undo_9 : decode cX12_undo 9 = .ok (.goto 4, 3) := by decide +kernel
theorem dX12_undo_12 : decode cX12_undo 12 = .ok (.iconst 0, 1) := by decide +kernel
theorem dX12_undo_13 : decode cX12_undo 13 = .ok (.iconst 0, 1) := by decide +kernel
theorem dX12_undo_14 : decode cX12_undo 14 = .ok (.iconst 0, 1) := by decide +kernel
theorem dX12_undo_15 : decode cX12_undo 15 = .ok (.invokevirtual 167, 3) := by decide +kernel
theorem dX12_undo_18 : decode cX12_undo 18 = .ok (.ifCond .eq 5, 3) := by decide +kernel
theorem dX12_undo_21 : decode cX12_undo 21 = .ok (.iconst 0, 1) := by decide +kernel
theorem dX12_undo_22 : decode cX12_undo 22 = .ok (.ireturn, 1) := by decide +kernel
theorem dX12_undo_23 : decode cX12_undo 23 = .ok (.aload_n 0, 1) := by decide +kernel
theorem dX12_undo_24 : decode cX12_undo 24 = .ok (.aload_n 0, 1) := by decide +kernel
theorem dX12_undo_25 : decode cX12_undo 25 = .ok (.getfield 21, 3) := by decide +kernel
theorem dX12_undo_28 : decode cX12_undo 28 = .ok (.iconst 0, 1) := by decide +kernel
theorem dX12_undo_29 : decode cX12_undo 29 = .ok (.invokevirtual 91, 3) := by decide +kernel
theorem dX12_undo_32 : decode cX12_undo 32 = .ok (.aload_n 0, 1) := by decide +kernel
theorem dX12_undo_33 : decode cX12_undo 33 = .ok (.dup, 1) := by decide +kernel
theorem dX12_undo_34 : decode cX12_undo 34 = .ok (.getfield 21, 3) := by decide +kernel
theorem dX12_undo_37 : decode cX12_undo 37 = .ok (.iconst 1, 1) := by decide +kernel
theorem dX12_undo_38 : decode cX12_undo 38 = .ok (.isub, 1) := by decide +kernel
theorem dX12_undo_39 : decode cX12_undo 39 = .ok (.putfield 21, 3) := by decide +kernel
theorem dX12_undo_42 : decode cX12_undo 42 = .ok (.aload_n 0, 1) := by decide +kernel
theorem dX12_undo_43 : decode cX12_undo 43 = .ok (.getfield 21, 3) := by decide +kernel
theorem dX12_undo_46 : decode cX12_undo 46 = .ok (.ireturn, 1) := by decide +kernel
set_option maxRecDepth 20000 in
theorem ggX12_save_X12_in : GoodIn wsX12_save wsX12_in := goodIn_r _ [6] rfl (by decide +kernel)
set_option maxRecDepth 20000 in
theorem gX12_save_X12_in : GoodIn wsX12_save (va_wsS RX12 87 yX12_in wsX12_in) := goodIn_app (goodIn_of _ (by decide +kernel)) ggX12_save_X12_in
set_option maxRecDepth 20000 in
theorem ggX12_save_X12_fails : GoodIn wsX12_save wsX12_fails := goodIn_r _ [10, 11, 16, 17, 18, 19, 20, 21, 22, 23, 24, 25, 26, 27, 28, 29, 30, 31, 32, 33, 34] rfl (by decide +kernel)
set_option maxRecDepth 20000 in
theorem gX12_save_X12_fails : GoodIn wsX12_save (wsV RX12 167 RX12 yX12_fails wsX12_fails) := goodIn_app (goodIn_of _ (by decide +kernel)) ggX12_save_X12_fails
set_option maxRecDepth 20000 in
theorem ggX12_save_X12_copyBlock : GoodIn wsX12_save wsX12_copyBlock := goodIn_r _ [15, 2, 16, 17, 18, 19, 20, 21, 22, 23, 24, 25, 26, 27, 28, 29, 30, 31, 32, 33, 34] rfl (by decide +kernel)
set_option maxRecDepth 20000 in
theorem gX12_save_X12_copyBlock : GoodIn wsX12_save (wsV RX12 91 RX12 yX12_copyBlock wsX12_copyBlock) := goodIn_app (goodIn_of _ (by decide +kernel)) ggX12_save_X12_copyBlock
theorem dX12_save_0 : decode cX12_save 0 = .ok (.aload_n 0, 1) := by decide +kernel
theorem dX12_save_1 : decode cX12_save 1 = .ok (.iload_n 1, 1) := by decide +kernel
theorem dX12_save_2 : decode cX12_save 2 = .ok (.iconst 0, 1) := by decide +kernel
theorem dX12_save_3 : decode cX12_save 3 = .ok (.iconst 1, 1) := by decide +kernel
theorem dX12_save_4 : decode cX12_save 4 = .ok (.invokestatic 87, 3) := by decide +kernel
theorem dX12_save_7 : decode cX12_save 7 = .ok (.ifCond .ne 7, 3) := by decide +kernel
theorem dX12_save_10 : decode cX12_save 10 = .ok (.iconst 1, 1) := by decide +kernel
theorem dX12_save_11 : decode cX12_save 11 = .ok (.goto 4, 3) := by decide +kernel
theorem dX12_save_14 : decode cX12_save 14 = .ok (.iconst 0, 1) := by decide +kernel
theorem dX12_save_15 : decode cX12_save 15 = .ok (.iconst 0, 1) := by decide +kernel
theorem dX12_save_16 : decode cX12_save 16 = .ok (.iconst 0, 1) := by decide +kernel
theorem dX12_save_17 : decode cX12_save 17 = .ok (.invokevirtual 167, 3) := by decide +kernel
theorem dX12_save_20 : decode cX12_save 20 = .ok (.ifCond .eq 5, 3) := by decide +kernel
theorem dX12_save_23 : decode cX12_save 23 = .ok (.iconst 0, 1) := by decide +kernel
theorem dX12_save_24 : decode cX12_save 24 = .ok (.ireturn, 1) := by decide +kernel
theorem dX12_save_25 : decode cX12_save 25 = .ok (.aload_n 0, 1) := by decide +kernel
theorem dX12_save_26 : decode cX12_save 26 = .ok (.iconst 0, 1) := by decide +kernel
theorem dX12_save_27 : decode cX12_save 27 = .ok (.bipush 7, 2) := by decide +kernel
theorem dX12_save_29 : decode cX12_save 29 = .ok (.iload_n 1, 1) := by decide +kernel
theorem dX12_save_30 : decode cX12_save 30 = .ok (.iadd, 1) := by decide +kernel
theorem dX12_save_31 : decode cX12_save 31 = .ok (.invokevirtual 91, 3) := by decide +kernel
theorem dX12_save_34 : decode cX12_save 34 = .ok (.aload_n 0, 1) := by decide +kernel
theorem dX12_save_35 : decode cX12_save 35 = .ok (.getfield 17, 3) := by decide +kernel
theorem dX12_save_38 : decode cX12_save 38 = .ok (.iload_n 1, 1) := by decide +kernel
theorem dX12_save_39 : decode cX12_save 39 = .ok (.iconst 1, 1) := by decide +kernel
theorem dX12_save_40 : decode cX12_save 40 = .ok (.bastore, 1) := by decide +kernel
theorem dX12_save_41 : decode cX12_save 41 = .ok (.aload_n 0, 1) := by decide +kernel
theorem dX12_save_42 : decode cX12_save 42 = .ok (.getfield 13, 3) := by decide +kernel
theorem dX12_save_45 : decode cX12_save 45 = .ok (.iconst 4, 1) := by decide +kernel
theorem dX12_save_46 : decode cX12_save 46 = .ok (.iaload, 1) := by decide +kernel
theorem dX12_save_47 : decode cX12_save 47 = .ok (.ireturn, 1) := by decide +kernel
set_option maxRecDepth 20000 in
theorem ggX12_restore_X12_in : GoodIn wsX12_restore wsX12_in := goodIn_r _ [7] rfl (by decide +kernel)
set_option maxRecDepth 20000 in
theorem gX12_restore_X12_in : GoodIn wsX12_restore (va_wsS RX12 87 yX12_in wsX12_in) := goodIn_app (goodIn_of _ (by decide +kernel)) ggX12_restore_X12_in
set_option maxRecDepth 20000 in
theorem ggX12_restore_X12_fails : GoodIn wsX12_restore wsX12_fails := goodIn_r _ [11, 12, 17, 18, 19, 20, 21, 22, 23, 24, 25, 26, 27, 28, 29, 30, 31, 32, 33, 34, 35] rfl (by decide +kernel)
set_option maxRecDepth 20000 in
theorem gX12_restore_X12_fails : GoodIn wsX12_restore (wsV RX12 167 RX12 yX12_fails wsX12_fails) := goodIn_app (goodIn_of _ (by decide +kernel)) ggX12_restore_X12_fails
set_option maxRecDepth 20000 in
theorem ggX12_restore_X12_copyBlock : GoodIn wsX12_restore wsX12_copyBlock := goodIn_r _ [16, 3, 17, 18, 19, 20, 21, 22, 23, 24, 25, 26, 27, 28, 29, 30, 31, 32, 33, 34, 35] rfl (by decide +kernel)
set_option maxRecDepth 20000 in
theorem gX12_restore_X12_copyBlock : GoodIn wsX12_restore (wsV RX12 91 RX12 yX12_copyBlock wsX12_copyBlock) := goodIn_app (goodIn_of _ (by decide +kernel)) ggX12_restore_X12_copyBlock
theorem dX12_restore_0 : decode cX12_restore 0 = .ok (.iload_n 1, 1) := by decide +kernel
theorem dX12_restore_1 : decode cX12_restore 1 = .ok (.iconst 0, 1) := by decide +kernel
theorem dX12_restore_2 : decode cX12_restore 2 = .ok (.iconst 1, 1) := by decide +kernel
theorem dX12_restore_3 : decode cX12_restore 3 = .ok (.invokestatic 87, 3) := by decide +kernel
theorem dX12_restore_6 : decode cX12_restore 6 = .ok (.istore_n 2, 1) := by decide +kernel
theorem dX12_restore_7 : decode cX12_restore 7 = .ok (.aload_n 0, 1) := by decide +kernel
theorem dX12_restore_8 : decode cX12_restore 8 = .ok (.iload_n 2, 1) := by decide +kernel
theorem dX12_restore_9 : decode cX12_restore 9 = .ok (.ifCond .ne 7, 3) := by decide +kernel
theorem dX12_restore_12 : decode cX12_restore 12 = .ok (.iconst 1, 1) := by decide +kernel
theorem dX12_restore_13 : decode cX12_restore 13 = .ok (.goto 4, 3) := by decide +kernel
theorem dX12_restore_16 : decode cX12_restore 16 = .ok (.iconst 0, 1) := by decide +kernel
theorem dX12_restore_17 : decode cX12_restore 17 = .ok (.iload_n 2, 1) := by decide +kernel
theorem dX12_restore_18 : decode cX12_restore 18 = .ok (.ifCond .eq 16, 3) := by decide +kernel
theorem dX12_restore_21 : decode cX12_restore 21 = .ok (.aload_n 0, 1) := by decide +kernel
theorem dX12_restore_22 : decode cX12_restore 22 = .ok (.getfield 17, 3) := by decide +kernel
theorem dX12_restore_25 : decode cX12_restore 25 = .ok (.iload_n 1, 1) := by decide +kernel
theorem dX12_restore_26 : decode cX12_restore 26 = .ok (.baload, 1) := by decide +kernel
theorem dX12_restore_27 : decode cX12_restore 27 = .ok (.ifCond .ne 7, 3) := by decide +kernel
theorem dX12_restore_30 : decode cX12_restore 30 = .ok (.iconst 1, 1) := by decide +kernel
theorem dX12_restore_31 : decode cX12_restore 31 = .ok (.goto 4, 3) := by decide +kernel
theorem dX12_restore_34 : decode cX12_restore 34 = .ok (.iconst 0, 1) := by decide +kernel
theorem dX12_restore_35 : decode cX12_restore 35 = .ok (.iconst 0, 1) := by decide +kernel
theorem dX12_restore_36 : decode cX12_restore 36 = .ok (.invokevirtual 167, 3) := by decide +kernel
theorem dX12_restore_39 : decode cX12_restore 39 = .ok (.ifCond .eq 5, 3) := by decide +kernel
theorem dX12_restore_42 : decode cX12_restore 42 = .ok (.iconst 0, 1) := by decide +kernel
theorem dX12_restore_43 : decode cX12_restore 43 = .ok (.ireturn, 1) := by decide +kernel
theorem dX12_restore_44 : decode cX12_restore 44 = .ok (.aload_n 0, 1) := by decide +kernel
theorem dX12_restore_45 : decode cX12_restore 45 = .ok (.bipush 7, 2) := by decide +kernel
theorem dX12_restore_47 : decode cX12_restore 47 = .ok (.iload_n 1, 1) := by decide +kernel
theorem dX12_restore_48 : decode cX12_restore 48 = .ok (.iadd, 1) := by decide +kernel
theorem dX12_restore_49 : decode cX12_restore 49 = .ok (.iconst 0, 1) := by decide +kernel
theorem dX12_restore_50 : decode cX12_restore 50 = .ok (.invokevirtual 91, 3) := by decide +kernel
theorem dX12_restore_53 : decode cX12_restore 53 = .ok (.aload_n 0, 1) := by decide +kernel
theorem dX12_restore_54 : decode cX12_restore 54 = .ok (.iconst 0, 1) := by decide +kernel
theorem dX12_restore_55 : decode cX12_restore 55 = .ok (.putfield 21, 3) := by decide +kernel
theorem dX12_restore_58 : decode cX12_restore 58 = .ok (.aload_n 0, 1) := by decide +kernel
theorem dX12_restore_59 : decode cX12_restore 59 = .ok (.getfield 13, 3) := by decide +kernel
theorem dX12_restore_62 : decode cX12_restore 62 = .ok (.iconst 4, 1) := by decide +kernel
theorem dX12_restore_63 : decode cX12_restore 63 = .ok (.iaload, 1) := by decide +kernel
theorem dX12_restore_64 : decode cX12_restore 64 = .ok (.ireturn, 1) := by decide +kernel
theorem dX12_put_0 : decode cX12_put 0 = .ok (.aload_n 0, 1) := by decide +kernel
theorem dX12_put_1 : decode cX12_put 1 = .ok (.getfield 36, 3) := by decide +kernel
theorem dX12_put_4 : decode cX12_put 4 = .ok (.aload_n 0, 1) := by decide +kernel
theorem dX12_put_5 : decode cX12_put 5 = .ok (.getfield 39, 3) := by decide +kernel
theorem dX12_put_8 : decode cX12_put 8 = .ok (.iload_n 1, 1) := by decide +kernel
theorem dX12_put_9 : decode cX12_put 9 = .ok (.iastore, 1) := by decide +kernel
theorem dX12_put_10 : decode cX12_put 10 = .ok (.aload_n 0, 1) := by decide +kernel
theorem dX12_put_11 : decode cX12_put 11 = .ok (.dup, 1) := by decide +kernel
theorem dX12_put_12 : decode cX12_put 12 = .ok (.getfield 39, 3) := by decide +kernel
theorem dX12_put_15 : decode cX12_put 15 = .ok (.iconst 1, 1) := by decide +kernel
theorem dX12_put_16 : decode cX12_put 16 = .ok (.iadd, 1) := by decide +kernel
theorem dX12_put_17 : decode cX12_put 17 = .ok (.putfield 39, 3) := by decide +kernel
theorem dX12_put_20 : decode cX12_put 20 = .ok (.return_, 1) := by decide +kernel
set_option maxRecDepth 20000 in
theorem ggX12_putMark_X12_of : GoodIn wsX12_putMark wsX12_of := goodIn_r _ [5, 6, 13, 14, 15, 16, 17, 18, 19, 20, 21, 22, 23, 24, 25, 26, 27, 28, 29, 30, 31] rfl (by decide +kernel)
set_option maxRecDepth 20000 in
theorem gX12_putMark_X12_of : GoodIn wsX12_putMark (wsV RX12 95 RX12 yX12_of wsX12_of) := goodIn_app (goodIn_of _ (by decide +kernel)) ggX12_putMark_X12_of
set_option maxRecDepth 20000 in
theorem ggX12_putMark_X12_put : GoodIn wsX12_putMark wsX12_put := goodIn_r _ [10, 11, 12, 13, 14, 15, 16, 17, 18, 19, 20, 21, 22, 23, 24, 25, 26, 27, 28, 29, 30, 31] rfl (by decide +kernel)
set_option maxRecDepth 20000 in
theorem gX12_putMark_X12_put : GoodIn wsX12_putMark (wsV RX12 331 RX12 yX12_put wsX12_put) := goodIn_app (goodIn_of _ (by decide +kernel)) ggX12_putMark_X12_put
theorem dX12_putMark_0 : decode cX12_putMark 0 = .ok (.aload_n 0, 1) := by decide +kernel
theorem dX12_putMark_1 : decode cX12_putMark 1 = .ok (.iload_n 1, 1) := by decide +kernel
theorem dX12_putMark_2 : decode cX12_putMark 2 = .ok (.bipush 17, 2) := by decide +kernel
theorem dX12_putMark_4 : decode cX12_putMark 4 = .ok (.invokevirtual 95, 3) := by decide +kernel
theorem dX12_putMark_7 : decode cX12_putMark 7 = .ok (.tableswitch 92 0 2 #[25, 34, 83], 25) := by decide +kernel
theorem dX12_putMark_32 : decode cX12_putMark 32 = .ok (.aload_n 0, 1) := by decide +kernel
theorem dX12_putMark_33 : decode cX12_putMark 33 = .ok (.bipush 46, 2) := by decide +kernel
theorem dX12_putMark_35 : decode cX12_putMark 35 = .ok (.invokevirtual 331, 3) := by decide +kernel
theorem dX12_putMark_38 : decode cX12_putMark 38 = .ok (.goto 67, 3) := by decide +kernel
theorem dX12_putMark_41 : decode cX12_putMark 41 = .ok (.aload_n 0, 1) := by decide +kernel
theorem dX12_putMark_42 : decode cX12_putMark 42 = .ok (.iload_n 1, 1) := by decide +kernel
theorem dX12_putMark_43 : decode cX12_putMark 43 = .ok (.bipush 18, 2) := by decide +kernel
theorem dX12_putMark_45 : decode cX12_putMark 45 = .ok (.invokevirtual 95, 3) := by decide +kernel
theorem dX12_putMark_48 : decode cX12_putMark 48 = .ok (.bipush 10, 2) := by decide +kernel
theorem dX12_putMark_50 : decode cX12_putMark 50 = .ok (.if_icmp .lt 20, 3) := by decide +kernel
theorem dX12_putMark_53 : decode cX12_putMark 53 = .ok (.aload_n 0, 1) := by decide +kernel
theorem dX12_putMark_54 : decode cX12_putMark 54 = .ok (.bipush 48, 2) := by decide +kernel
theorem dX12_putMark_56 : decode cX12_putMark 56 = .ok (.aload_n 0, 1) := by decide +kernel
theorem dX12_putMark_57 : decode cX12_putMark 57 = .ok (.iload_n 1, 1) := by decide +kernel
theorem dX12_putMark_58 : decode cX12_putMark 58 = .ok (.bipush 18, 2) := by decide +kernel
theorem dX12_putMark_60 : decode cX12_putMark 60 = .ok (.invokevirtual 95, 3) := by decide +kernel
theorem dX12_putMark_63 : decode cX12_putMark 63 = .ok (.bipush 10, 2) := by decide +kernel
theorem dX12_putMark_65 : decode cX12_putMark 65 = .ok (.idiv, 1) := by decide +kernel
theorem dX12_putMark_66 : decode cX12_putMark 66 = .ok (.iadd, 1) := by decide +kernel
theorem dX12_putMark_67 : decode cX12_putMark 67 = .ok (.invokevirtual 331, 3) := by decide +kernel
theorem dX12_putMark_70 : decode cX12_putMark 70 = .ok (.aload_n 0, 1) := by decide +kernel
theorem dX12_putMark_71 : decode cX12_putMark 71 = .ok (.bipush 48, 2) := by decide +kernel
theorem dX12_putMark_73 : decode cX12_putMark 73 = .ok (.aload_n 0, 1) := by decide +kernel
theorem dX12_putMark_74 : decode cX12_putMark 74 = .ok (.iload_n 1, 1) := by decide +kernel
theorem dX12_putMark_75 : decode cX12_putMark 75 = .ok (.bipush 18, 2) := by decide +kernel
theorem dX12_putMark_77 : decode cX12_putMark 77 = .ok (.invokevirtual 95, 3) := by decide +kernel
theorem dX12_putMark_80 : decode cX12_putMark 80 = .ok (.bipush 10, 2) := by decide +kernel
theorem dX12_putMark_82 : decode cX12_putMark 82 = .ok (.irem, 1) := by decide +kernel
theorem dX12_putMark_83 : decode cX12_putMark 83 = .ok (.iadd, 1) := by decide +kernel
theorem dX12_putMark_84 : decode cX12_putMark 84 = .ok (.invokevirtual 331, 3) := by decide +kernel
theorem dX12_putMark_87 : decode cX12_putMark 87 = .ok (.goto 18, 3) := by decide +kernel
theorem dX12_putMark_90 : decode cX12_putMark 90 = .ok (.aload_n 0, 1) := by decide +kernel
theorem dX12_putMark_91 : decode cX12_putMark 91 = .ok (.bipush 61, 2) := by decide +kernel
theorem dX12_putMark_93 : decode cX12_putMark 93 = .ok (.invokevirtual 331, 3) := by decide +kernel
theorem dX12_putMark_96 : decode cX12_putMark 96 = .ok (.goto 9, 3) := by decide +kernel
theorem dX12_putMark_99 : decode cX12_putMark 99 = .ok (.aload_n 0, 1) := by decide +kernel
theorem dX12_putMark_100 : decode cX12_putMark 100 = .ok (.bipush 42, 2) := by decide +kernel
theorem dX12_putMark_102 : decode cX12_putMark 102 = .ok (.invokevirtual 331, 3) := by decide +kernel
theorem dX12_putMark_105 : decode cX12_putMark 105 = .ok (.return_, 1) := by decide +kernel
set_option maxRecDepth 20000 in
theorem ggX12_writeSummary_X12_put : GoodIn wsX12_writeSummary wsX12_put := goodIn_r _ [8, 9, 2, 18, 19, 20, 21, 22, 23, 24, 25, 26, 27, 28, 29, 30, 31, 32, 33, 34, 35, 36] rfl (by decide +kernel)
set_option maxRecDepth 20000 in
theorem gX12_writeSummary_X12_put : GoodIn wsX12_writeSummary (wsV RX12 331 RX12 yX12_put wsX12_put) := goodIn_app (goodIn_of _ (by decide +kernel)) ggX12_writeSummary_X12_put
set_option maxRecDepth 20000 in
theorem ggX12_writeSummary_X12_of : GoodIn wsX12_writeSummary wsX12_of := goodIn_r _ [13, 3, 18, 19, 20, 21, 22, 23, 24, 25, 26, 27, 28, 29, 30, 31, 32, 33, 34, 35, 36] rfl (by decide +kernel)
set_option maxRecDepth 20000 in
theorem gX12_writeSummary_X12_of : GoodIn wsX12_writeSummary (wsV RX12 95 RX12 yX12_of wsX12_of) := goodIn_app (goodIn_of _ (by decide +kernel)) ggX12_writeSummary_X12_of
set_option maxRecDepth 20000 in
theorem ggX12_writeSummary_X12_putMark : GoodIn wsX12_writeSummary wsX12_putMark := goodIn_r _ [17, 10, 11, 12, 7, 13, 3, 4, 5, 6, 8, 9, 2, 18, 19, 20, 21, 22, 23, 24, 25, 26, 27, 28, 29, 30, 31, 32, 33, 34, 35, 36] rfl (by decide +kernel)
set_option maxRecDepth 20000 in
theorem gX12_writeSummary_X12_putMark : GoodIn wsX12_writeSummary (wsV RX12 334 RX12 yX12_putMark wsX12_putMark) := goodIn_app (goodIn_of _ (by decide +kernel)) ggX12_writeSummary_X12_putMark
theorem dX12_writeSummary_0 : decode cX12_writeSummary 0 = .ok (.aload_n 0, 1) := by decide +kernel
theorem dX12_writeSummary_1 : decode cX12_writeSummary 1 = .ok (.iconst 0, 1) := by decide +kernel
theorem dX12_writeSummary_2 : decode cX12_writeSummary 2 = .ok (.putfield 1, 3) := by decide +kernel
theorem dX12_writeSummary_5 : decode cX12_writeSummary 5 = .ok (.aload_n 0, 1) := by decide +kernel
theorem dX12_writeSummary_6 : decode cX12_writeSummary 6 = .ok (.iconst 0, 1) := by decide +kernel
theorem dX12_writeSummary_7 : decode cX12_writeSummary 7 = .ok (.putfield 39, 3) := by decide +kernel
theorem dX12_writeSummary_10 : decode cX12_writeSummary 10 = .ok (.iconst 0, 1) := by decide +kernel
theorem dX12_writeSummary_11 : decode cX12_writeSummary 11 = .ok (.istore_n 1, 1) := by decide +kernel
theorem dX12_writeSummary_12 : decode cX12_writeSummary 12 = .ok (.iload_n 1, 1) := by decide +kernel
theorem dX12_writeSummary_13 : decode cX12_writeSummary 13 = .ok (.aload_n 0, 1) := by decide +kernel
theorem dX12_writeSummary_14 : decode cX12_writeSummary 14 = .ok (.getfield 13, 3) := by decide +kernel
theorem dX12_writeSummary_17 : decode cX12_writeSummary 17 = .ok (.bipush 13, 2) := by decide +kernel
theorem dX12_writeSummary_19 : decode cX12_writeSummary 19 = .ok (.iaload, 1) := by decide +kernel
theorem dX12_writeSummary_20 : decode cX12_writeSummary 20 = .ok (.if_icmp .ge 54, 3) := by decide +kernel
theorem dX12_writeSummary_23 : decode cX12_writeSummary 23 = .ok (.iload_n 1, 1) := by decide +kernel
theorem dX12_writeSummary_24 : decode cX12_writeSummary 24 = .ok (.ifCond .le 9, 3) := by decide +kernel
theorem dX12_writeSummary_27 : decode cX12_writeSummary 27 = .ok (.aload_n 0, 1) := by decide +kernel
theorem dX12_writeSummary_28 : decode cX12_writeSummary 28 = .ok (.bipush 32, 2) := by decide +kernel
theorem dX12_writeSummary_30 : decode cX12_writeSummary 30 = .ok (.invokevirtual 331, 3) := by decide +kernel
theorem dX12_writeSummary_33 : decode cX12_writeSummary 33 = .ok (.iconst 0, 1) := by decide +kernel
theorem dX12_writeSummary_34 : decode cX12_writeSummary 34 = .ok (.istore_n 2, 1) := by decide +kernel
theorem dX12_writeSummary_35 : decode cX12_writeSummary 35 = .ok (.iload_n 2, 1) := by decide +kernel
theorem dX12_writeSummary_36 : decode cX12_writeSummary 36 = .ok (.aload_n 0, 1) := by decide +kernel
theorem dX12_writeSummary_37 : decode cX12_writeSummary 37 = .ok (.iload_n 1, 1) := by decide +kernel
theorem dX12_writeSummary_38 : decode cX12_writeSummary 38 = .ok (.iconst 0, 1) := by decide +kernel
theorem dX12_writeSummary_39 : decode cX12_writeSummary 39 = .ok (.invokevirtual 95, 3) := by decide +kernel
theorem dX12_writeSummary_42 : decode cX12_writeSummary 42 = .ok (.if_icmp .ge 21, 3) := by decide +kernel
theorem dX12_writeSummary_45 : decode cX12_writeSummary 45 = .ok (.aload_n 0, 1) := by decide +kernel
theorem dX12_writeSummary_46 : decode cX12_writeSummary 46 = .ok (.aload_n 0, 1) := by decide +kernel
theorem dX12_writeSummary_47 : decode cX12_writeSummary 47 = .ok (.iload_n 1, 1) := by decide +kernel
theorem dX12_writeSummary_48 : decode cX12_writeSummary 48 = .ok (.iconst 1, 1) := by decide +kernel
theorem dX12_writeSummary_49 : decode cX12_writeSummary 49 = .ok (.iload_n 2, 1) := by decide +kernel
theorem dX12_writeSummary_50 : decode cX12_writeSummary 50 = .ok (.iadd, 1) := by decide +kernel
theorem dX12_writeSummary_51 : decode cX12_writeSummary 51 = .ok (.invokevirtual 95, 3) := by decide +kernel
theorem dX12_writeSummary_54 : decode cX12_writeSummary 54 = .ok (.invokevirtual 331, 3) := by decide +kernel
theorem dX12_writeSummary_57 : decode cX12_writeSummary 57 = .ok (.iinc 2 1, 3) := by decide +kernel
theorem dX12_writeSummary_60 : decode cX12_writeSummary 60 = .ok (.goto (-25), 3) := by decide +kernel
theorem dX12_writeSummary_63 : decode cX12_writeSummary 63 = .ok (.aload_n 0, 1) := by decide +kernel
theorem dX12_writeSummary_64 : decode cX12_writeSummary 64 = .ok (.iload_n 1, 1) := by decide +kernel
theorem dX12_writeSummary_65 : decode cX12_writeSummary 65 = .ok (.invokevirtual 334, 3) := by decide +kernel
theorem dX12_writeSummary_68 : decode cX12_writeSummary 68 = .ok (.iinc 1 1, 3) := by decide +kernel
theorem dX12_writeSummary_71 : decode cX12_writeSummary 71 = .ok (.goto (-59), 3) := by decide +kernel
theorem dX12_writeSummary_74 : decode cX12_writeSummary 74 = .ok (.aload_n 0, 1) := by decide +kernel
theorem dX12_writeSummary_75 : decode cX12_writeSummary 75 = .ok (.getfield 39, 3) := by decide +kernel
theorem dX12_writeSummary_78 : decode cX12_writeSummary 78 = .ok (.ireturn, 1) := by decide +kernel
set_option maxRecDepth 20000 in
theorem ggX12_outputByte_X12_in : GoodIn wsX12_outputByte wsX12_in := goodIn_r _ [6] rfl (by decide +kernel)
set_option maxRecDepth 20000 in
theorem gX12_outputByte_X12_in : GoodIn wsX12_outputByte (va_wsS RX12 87 yX12_in wsX12_in) := goodIn_app (goodIn_of _ (by decide +kernel)) ggX12_outputByte_X12_in
set_option maxRecDepth 20000 in
theorem ggX12_outputByte_X12_fails : GoodIn wsX12_outputByte wsX12_fails := goodIn_r _ [10, 11, 12, 13, 14, 15, 16, 17, 18, 19, 20, 21, 22, 23, 24, 25, 26, 27, 28, 29, 30] rfl (by decide +kernel)
set_option maxRecDepth 20000 in
theorem gX12_outputByte_X12_fails : GoodIn wsX12_outputByte (wsV RX12 167 RX12 yX12_fails wsX12_fails) := goodIn_app (goodIn_of _ (by decide +kernel)) ggX12_outputByte_X12_fails
theorem dX12_outputByte_0 : decode cX12_outputByte 0 = .ok (.aload_n 0, 1) := by decide +kernel
theorem dX12_outputByte_1 : decode cX12_outputByte 1 = .ok (.iload_n 1, 1) := by decide +kernel
theorem dX12_outputByte_2 : decode cX12_outputByte 2 = .ok (.iconst 0, 1) := by decide +kernel
theorem dX12_outputByte_3 : decode cX12_outputByte 3 = .ok (.aload_n 0, 1) := by decide +kernel
theorem dX12_outputByte_4 : decode cX12_outputByte 4 = .ok (.getfield 39, 3) := by decide +kernel
theorem dX12_outputByte_7 : decode cX12_outputByte 7 = .ok (.iconst 1, 1) := by decide +kernel
theorem dX12_outputByte_8 : decode cX12_outputByte 8 = .ok (.isub, 1) := by decide +kernel
theorem dX12_outputByte_9 : decode cX12_outputByte 9 = .ok (.invokestatic 87, 3) := by decide +kernel
theorem dX12_outputByte_12 : decode cX12_outputByte 12 = .ok (.ifCond .ne 7, 3) := by decide +kernel
theorem dX12_outputByte_15 : decode cX12_outputByte 15 = .ok (.iconst 1, 1) := by decide +kernel
theorem dX12_outputByte_16 : decode cX12_outputByte 16 = .ok (.goto 4, 3) := by decide +kernel
theorem dX12_outputByte_19 : decode cX12_outputByte 19 = .ok (.iconst 0, 1) := by decide +kernel
theorem dX12_outputByte_20 : decode cX12_outputByte 20 = .ok (.iconst 0, 1) := by decide +kernel
theorem dX12_outputByte_21 : decode cX12_outputByte 21 = .ok (.iconst 0, 1) := by decide +kernel
theorem dX12_outputByte_22 : decode cX12_outputByte 22 = .ok (.invokevirtual 167, 3) := by decide +kernel
theorem dX12_outputByte_25 : decode cX12_outputByte 25 = .ok (.ifCond .eq 5, 3) := by decide +kernel
theorem dX12_outputByte_28 : decode cX12_outputByte 28 = .ok (.iconst 0, 1) := by decide +kernel
theorem dX12_outputByte_29 : decode cX12_outputByte 29 = .ok (.ireturn, 1) := by decide +kernel
theorem dX12_outputByte_30 : decode cX12_outputByte 30 = .ok (.aload_n 0, 1) := by decide +kernel
theorem dX12_outputByte_31 : decode cX12_outputByte 31 = .ok (.getfield 36, 3) := by decide +kernel
theorem dX12_outputByte_34 : decode cX12_outputByte 34 = .ok (.iload_n 1, 1) := by decide +kernel
theorem dX12_outputByte_35 : decode cX12_outputByte 35 = .ok (.iaload, 1) := by decide +kernel
theorem dX12_outputByte_36 : decode cX12_outputByte 36 = .ok (.ireturn, 1) := by decide +kernel
theorem dJx29ce0_ordinal_8abf5_0 : decode cJx29ce0_ordinal_8abf5 0 = .ok (.aload_n 0, 1) := by decide +kernel
theorem dJx29ce0_ordinal_8abf5_1 : decode cJx29ce0_ordinal_8abf5 1 = .ok (.getfield 7, 3) := by decide +kernel
theorem dJx29ce0_ordinal_8abf5_4 : decode cJx29ce0_ordinal_8abf5 4 = .ok (.ireturn, 1) := by decide +kernel
theorem dJ6_bitCount_0f7a4_0 : decode cJ6_bitCount_0f7a4 0 = .ok (.iload_n 0, 1) := by decide +kernel
theorem dJ6_bitCount_0f7a4_1 : decode cJ6_bitCount_0f7a4 1 = .ok (.iload_n 0, 1) := by decide +kernel
theorem dJ6_bitCount_0f7a4_2 : decode cJ6_bitCount_0f7a4 2 = .ok (.iconst 1, 1) := by decide +kernel
theorem dJ6_bitCount_0f7a4_3 : decode cJ6_bitCount_0f7a4 3 = .ok (.iushr, 1) := by decide +kernel
theorem dJ6_bitCount_0f7a4_4 : decode cJ6_bitCount_0f7a4 4 = .ok (.ldc_w 265, 3) := by decide +kernel
theorem dJ6_bitCount_0f7a4_7 : decode cJ6_bitCount_0f7a4 7 = .ok (.iand, 1) := by decide +kernel
theorem dJ6_bitCount_0f7a4_8 : decode cJ6_bitCount_0f7a4 8 = .ok (.isub, 1) := by decide +kernel
theorem dJ6_bitCount_0f7a4_9 : decode cJ6_bitCount_0f7a4 9 = .ok (.istore_n 0, 1) := by decide +kernel
theorem dJ6_bitCount_0f7a4_10 : decode cJ6_bitCount_0f7a4 10 = .ok (.iload_n 0, 1) := by decide +kernel
theorem dJ6_bitCount_0f7a4_11 : decode cJ6_bitCount_0f7a4 11 = .ok (.ldc_w 266, 3) := by decide +kernel
theorem dJ6_bitCount_0f7a4_14 : decode cJ6_bitCount_0f7a4 14 = .ok (.iand, 1) := by decide +kernel
theorem dJ6_bitCount_0f7a4_15 : decode cJ6_bitCount_0f7a4 15 = .ok (.iload_n 0, 1) := by decide +kernel
theorem dJ6_bitCount_0f7a4_16 : decode cJ6_bitCount_0f7a4 16 = .ok (.iconst 2, 1) := by decide +kernel
theorem dJ6_bitCount_0f7a4_17 : decode cJ6_bitCount_0f7a4 17 = .ok (.iushr, 1) := by decide +kernel
theorem dJ6_bitCount_0f7a4_18 : decode cJ6_bitCount_0f7a4 18 = .ok (.ldc_w 266, 3) := by decide +kernel
theorem dJ6_bitCount_0f7a4_21 : decode cJ6_bitCount_0f7a4 21 = .ok (.iand, 1) := by decide +kernel
theorem dJ6_bitCount_0f7a4_22 : decode cJ6_bitCount_0f7a4 22 = .ok (.iadd, 1) := by decide +kernel
theorem dJ6_bitCount_0f7a4_23 : decode cJ6_bitCount_0f7a4 23 = .ok (.istore_n 0, 1) := by decide +kernel
theorem dJ6_bitCount_0f7a4_24 : decode cJ6_bitCount_0f7a4 24 = .ok (.iload_n 0, 1) := by decide +kernel
theorem dJ6_bitCount_0f7a4_25 : decode cJ6_bitCount_0f7a4 25 = .ok (.iload_n 0, 1) := by decide +kernel
theorem dJ6_bitCount_0f7a4_26 : decode cJ6_bitCount_0f7a4 26 = .ok (.iconst 4, 1) := by decide +kernel
theorem dJ6_bitCount_0f7a4_27 : decode cJ6_bitCount_0f7a4 27 = .ok (.iushr, 1) := by decide +kernel
theorem dJ6_bitCount_0f7a4_28 : decode cJ6_bitCount_0f7a4 28 = .ok (.iadd, 1) := by decide +kernel
theorem dJ6_bitCount_0f7a4_29 : decode cJ6_bitCount_0f7a4 29 = .ok (.ldc_w 267, 3) := by decide +kernel
theorem dJ6_bitCount_0f7a4_32 : decode cJ6_bitCount_0f7a4 32 = .ok (.iand, 1) := by decide +kernel
theorem dJ6_bitCount_0f7a4_33 : decode cJ6_bitCount_0f7a4 33 = .ok (.istore_n 0, 1) := by decide +kernel
theorem dJ6_bitCount_0f7a4_34 : decode cJ6_bitCount_0f7a4 34 = .ok (.iload_n 0, 1) := by decide +kernel
theorem dJ6_bitCount_0f7a4_35 : decode cJ6_bitCount_0f7a4 35 = .ok (.iload_n 0, 1) := by decide +kernel
theorem dJ6_bitCount_0f7a4_36 : decode cJ6_bitCount_0f7a4 36 = .ok (.bipush 8, 2) := by decide +kernel
theorem dJ6_bitCount_0f7a4_38 : decode cJ6_bitCount_0f7a4 38 = .ok (.iushr, 1) := by decide +kernel
theorem dJ6_bitCount_0f7a4_39 : decode cJ6_bitCount_0f7a4 39 = .ok (.iadd, 1) := by decide +kernel
theorem dJ6_bitCount_0f7a4_40 : decode cJ6_bitCount_0f7a4 40 = .ok (.istore_n 0, 1) := by decide +kernel
theorem dJ6_bitCount_0f7a4_41 : decode cJ6_bitCount_0f7a4 41 = .ok (.iload_n 0, 1) := by decide +kernel
theorem dJ6_bitCount_0f7a4_42 : decode cJ6_bitCount_0f7a4 42 = .ok (.iload_n 0, 1) := by decide +kernel
theorem dJ6_bitCount_0f7a4_43 : decode cJ6_bitCount_0f7a4 43 = .ok (.bipush 16, 2) := by decide +kernel
theorem dJ6_bitCount_0f7a4_45 : decode cJ6_bitCount_0f7a4 45 = .ok (.iushr, 1) := by decide +kernel
theorem dJ6_bitCount_0f7a4_46 : decode cJ6_bitCount_0f7a4 46 = .ok (.iadd, 1) := by decide +kernel
theorem dJ6_bitCount_0f7a4_47 : decode cJ6_bitCount_0f7a4 47 = .ok (.istore_n 0, 1) := by decide +kernel
theorem dJ6_bitCount_0f7a4_48 : decode cJ6_bitCount_0f7a4 48 = .ok (.iload_n 0, 1) := by decide +kernel
theorem dJ6_bitCount_0f7a4_49 : decode cJ6_bitCount_0f7a4 49 = .ok (.bipush 63, 2) := by decide +kernel
theorem dJ6_bitCount_0f7a4_51 : decode cJ6_bitCount_0f7a4 51 = .ok (.iand, 1) := by decide +kernel
theorem dJ6_bitCount_0f7a4_52 : decode cJ6_bitCount_0f7a4 52 = .ok (.ireturn, 1) := by decide +kernel
theorem dJ9_max_7cf53_0 : decode cJ9_max_7cf53 0 = .ok (.iload_n 0, 1) := by decide +kernel
theorem dJ9_max_7cf53_1 : decode cJ9_max_7cf53 1 = .ok (.iload_n 1, 1) := by decide +kernel
theorem dJ9_max_7cf53_2 : decode cJ9_max_7cf53 2 = .ok (.if_icmp .lt 7, 3) := by decide +kernel
theorem dJ9_max_7cf53_5 : decode cJ9_max_7cf53 5 = .ok (.iload_n 0, 1) := by decide +kernel
theorem dJ9_max_7cf53_6 : decode cJ9_max_7cf53 6 = .ok (.goto 4, 3) := by decide +kernel
theorem dJ9_max_7cf53_9 : decode cJ9_max_7cf53 9 = .ok (.iload_n 1, 1) := by decide +kernel
theorem dJ9_max_7cf53_10 : decode cJ9_max_7cf53 10 = .ok (.ireturn, 1) := by decide +kernel
theorem dJ9_min_7cf53_0 : decode cJ9_min_7cf53 0 = .ok (.iload_n 0, 1) := by decide +kernel
theorem dJ9_min_7cf53_1 : decode cJ9_min_7cf53 1 = .ok (.iload_n 1, 1) := by decide +kernel
theorem dJ9_min_7cf53_2 : decode cJ9_min_7cf53 2 = .ok (.if_icmp .gt 7, 3) := by decide +kernel
theorem dJ9_min_7cf53_5 : decode cJ9_min_7cf53 5 = .ok (.iload_n 0, 1) := by decide +kernel
theorem dJ9_min_7cf53_6 : decode cJ9_min_7cf53 6 = .ok (.goto 4, 3) := by decide +kernel
theorem dJ9_min_7cf53_9 : decode cJ9_min_7cf53 9 = .ok (.iload_n 1, 1) := by decide +kernel
theorem dJ9_min_7cf53_10 : decode cJ9_min_7cf53 10 = .ok (.ireturn, 1) := by decide +kernel
set_option maxRecDepth 20000 in
theorem ggJ0_length_8abf5_J0_coder_7d493 : GoodIn wsJ0_length_8abf5 wsJ0_coder_7d493 := goodIn_r _ [6, 7, 8] rfl (by decide +kernel)
set_option maxRecDepth 20000 in
theorem gJ0_length_8abf5_J0_coder_7d493 : GoodIn wsJ0_length_8abf5 (wsV RJ0 335 RJ0 yJ0_coder_7d493 wsJ0_coder_7d493) := goodIn_app (goodIn_of _ (by decide +kernel)) ggJ0_length_8abf5_J0_coder_7d493
theorem dJ0_length_8abf5_0 : decode cJ0_length_8abf5 0 = .ok (.aload_n 0, 1) := by decide +kernel
theorem dJ0_length_8abf5_1 : decode cJ0_length_8abf5 1 = .ok (.getfield 9, 3) := by decide +kernel
theorem dJ0_length_8abf5_4 : decode cJ0_length_8abf5 4 = .ok (.arraylength, 1) := by decide +kernel
theorem dJ0_length_8abf5_5 : decode cJ0_length_8abf5 5 = .ok (.aload_n 0, 1) := by decide +kernel
theorem dJ0_length_8abf5_6 : decode cJ0_length_8abf5 6 = .ok (.invokevirtual 335, 3) := by decide +kernel
theorem dJ0_length_8abf5_9 : decode cJ0_length_8abf5 9 = .ok (.ishr, 1) := by decide +kernel
theorem dJ0_length_8abf5_10 : decode cJ0_length_8abf5 10 = .ok (.ireturn, 1) := by decide +kernel
set_option maxRecDepth 20000 in
theorem ggJ0_charAt_5068e_J0_isLatin1_aae02 : GoodIn wsJ0_charAt_5068e wsJ0_isLatin1_aae02 := goodIn_r _ [6, 7, 8] rfl (by decide +kernel)
set_option maxRecDepth 20000 in
theorem gJ0_charAt_5068e_J0_isLatin1_aae02 : GoodIn wsJ0_charAt_5068e (wsV RJ0 492 RJ0 yJ0_isLatin1_aae02 wsJ0_isLatin1_aae02) := goodIn_app (goodIn_of _ (by decide +kernel)) ggJ0_charAt_5068e_J0_isLatin1_aae02
set_option maxRecDepth 20000 in
theorem ggJ0_charAt_5068e_J1_charAt_3b067 : GoodIn wsJ0_charAt_5068e wsJ1_charAt_3b067 := goodIn_r _ [12, 13, 14, 5, 15, 16, 17, 18, 19, 20] rfl (by decide +kernel)
set_option maxRecDepth 20000 in
theorem gJ0_charAt_5068e_J1_charAt_3b067 : GoodIn wsJ0_charAt_5068e (va_wsS RJ0 495 yJ1_charAt_3b067 wsJ1_charAt_3b067) := goodIn_app (goodIn_of _ (by decide +kernel)) ggJ0_charAt_5068e_J1_charAt_3b067
set_option maxRecDepth 20000 in
theorem ggJ0_charAt_5068e_J2_charAt_3b067 : GoodIn wsJ0_charAt_5068e wsJ2_charAt_3b067 := goodIn_r _ [24, 25, 26, 23, 27, 28, 29, 30, 31, 14, 5, 15, 16, 17, 18, 19, 20, 32, 33, 34, 35, 36, 37] rfl (by decide +kernel)
set_option maxRecDepth 20000 in
theorem gJ0_charAt_5068e_J2_charAt_3b067 : GoodIn wsJ0_charAt_5068e (va_wsS RJ0 498 yJ2_charAt_3b067 wsJ2_charAt_3b067) := goodIn_app (goodIn_of _ (by decide +kernel)) ggJ0_charAt_5068e_J2_charAt_3b067
theorem dJ0_charAt_5068e_0 : decode cJ0_charAt_5068e 0 = .ok (.aload_n 0, 1) := by decide +kernel
theorem dJ0_charAt_5068e_1 : decode cJ0_charAt_5068e 1 = .ok (.invokevirtual 492, 3) := by decide +kernel
theorem dJ0_charAt_5068e_4 : decode cJ0_charAt_5068e 4 = .ok (.ifCond .eq 12, 3) := by decide +kernel
theorem dJ0_charAt_5068e_7 : decode cJ0_charAt_5068e 7 = .ok (.aload_n 0, 1) := by decide +kernel
theorem dJ0_charAt_5068e_8 : decode cJ0_charAt_5068e 8 = .ok (.getfield 9, 3) := by decide +kernel
theorem dJ0_charAt_5068e_11 : decode cJ0_charAt_5068e 11 = .ok (.iload_n 1, 1) := by decide +kernel
theorem dJ0_charAt_5068e_12 : decode cJ0_charAt_5068e 12 = .ok (.invokestatic 495, 3) := by decide +kernel
theorem dJ0_charAt_5068e_15 : decode cJ0_charAt_5068e 15 = .ok (.ireturn, 1) := by decide +kernel
theorem dJ0_charAt_5068e_16 : decode cJ0_charAt_5068e 16 = .ok (.aload_n 0, 1) := by decide +kernel
theorem dJ0_charAt_5068e_17 : decode cJ0_charAt_5068e 17 = .ok (.getfield 9, 3) := by decide +kernel
theorem dJ0_charAt_5068e_20 : decode cJ0_charAt_5068e 20 = .ok (.iload_n 1, 1) := by decide +kernel
theorem dJ0_charAt_5068e_21 : decode cJ0_charAt_5068e 21 = .ok (.invokestatic 498, 3) := by decide +kernel
theorem dJ0_charAt_5068e_24 : decode cJ0_charAt_5068e 24 = .ok (.ireturn, 1) := by decide +kernel
theorem dJ0_coder_7d493_0 : decode cJ0_coder_7d493 0 = .ok (.getstatic 38, 3) := by decide +kernel
theorem dJ0_coder_7d493_3 : decode cJ0_coder_7d493 3 = .ok (.ifCond .eq 10, 3) := by decide +kernel
theorem dJ0_coder_7d493_6 : decode cJ0_coder_7d493 6 = .ok (.aload_n 0, 1) := by decide +kernel
theorem dJ0_coder_7d493_7 : decode cJ0_coder_7d493 7 = .ok (.getfield 15, 3) := by decide +kernel
theorem dJ0_coder_7d493_10 : decode cJ0_coder_7d493 10 = .ok (.goto 4, 3) := by decide +kernel
theorem dJ0_coder_7d493_13 : decode cJ0_coder_7d493 13 = .ok (.iconst 1, 1) := by decide +kernel
theorem dJ0_coder_7d493_14 : decode cJ0_coder_7d493 14 = .ok (.ireturn, 1) := by decide +kernel
theorem dJ0_isLatin1_aae02_0 : decode cJ0_isLatin1_aae02 0 = .ok (.getstatic 38, 3) := by decide +kernel
theorem dJ0_isLatin1_aae02_3 : decode cJ0_isLatin1_aae02 3 = .ok (.ifCond .eq 14, 3) := by decide +kernel
theorem dJ0_isLatin1_aae02_6 : decode cJ0_isLatin1_aae02 6 = .ok (.aload_n 0, 1) := by decide +kernel
theorem dJ0_isLatin1_aae02_7 : decode cJ0_isLatin1_aae02 7 = .ok (.getfield 15, 3) := by decide +kernel
theorem dJ0_isLatin1_aae02_10 : decode cJ0_isLatin1_aae02 10 = .ok (.ifCond .ne 7, 3) := by decide +kernel
theorem dJ0_isLatin1_aae02_13 : decode cJ0_isLatin1_aae02 13 = .ok (.iconst 1, 1) := by decide +kernel
theorem dJ0_isLatin1_aae02_14 : decode cJ0_isLatin1_aae02 14 = .ok (.goto 4, 3) := by decide +kernel
theorem dJ0_isLatin1_aae02_17 : decode cJ0_isLatin1_aae02 17 = .ok (.iconst 0, 1) := by decide +kernel
theorem dJ0_isLatin1_aae02_18 : decode cJ0_isLatin1_aae02 18 = .ok (.ireturn, 1) := by decide +kernel
set_option maxRecDepth 20000 in
theorem ggJ0_checkIndex_df160_J3_checkIndex_8e157 : GoodIn wsJ0_checkIndex_df160 wsJ3_checkIndex_8e157 := goodIn_r _ [5] rfl (by decide +kernel)
set_option maxRecDepth 20000 in
theorem gJ0_checkIndex_df160_J3_checkIndex_8e157 : GoodIn wsJ0_checkIndex_df160 (va_wsS RJ0 1059 yJ3_checkIndex_8e157 wsJ3_checkIndex_8e157) := goodIn_app (goodIn_of _ (by decide +kernel)) ggJ0_checkIndex_df160_J3_checkIndex_8e157
theorem dJ0_checkIndex_df160_0 : decode cJ0_checkIndex_df160 0 = .ok (.iload_n 0, 1) := by decide +kernel
theorem dJ0_checkIndex_df160_1 : decode cJ0_checkIndex_df160 1 = .ok (.iload_n 1, 1) := by decide +kernel
theorem dJ0_checkIndex_df160_2 : decode cJ0_checkIndex_df160 2 = .ok (.getstatic 1053, 3) := by decide +kernel
theorem dJ0_checkIndex_df160_5 : decode cJ0_checkIndex_df160 5 = .ok (.invokestatic 1059, 3) := by decide +kernel
theorem dJ0_checkIndex_df160_8 : decode cJ0_checkIndex_df160 8 = .ok (.pop, 1) := by decide +kernel
theorem dJ0_checkIndex_df160_9 : decode cJ0_checkIndex_df160 9 = .ok (.return_, 1) := by decide +kernel
set_option maxRecDepth 20000 in
theorem ggJ1_charAt_3b067_J0_checkIndex_df160 : GoodIn wsJ1_charAt_3b067 wsJ0_checkIndex_df160 := goodIn_r _ [4, 5, 6, 7, 8, 9] rfl (by decide +kernel)
set_option maxRecDepth 20000 in
theorem gJ1_charAt_3b067_J0_checkIndex_df160 : GoodIn wsJ1_charAt_3b067 (va_wsS RJ1 9 yJ0_checkIndex_df160 wsJ0_checkIndex_df160) := goodIn_app (goodIn_of _ (by decide +kernel)) ggJ1_charAt_3b067_J0_checkIndex_df160
theorem dJ1_charAt_3b067_0 : decode cJ1_charAt_3b067 0 = .ok (.iload_n 1, 1) := by decide +kernel
theorem dJ1_charAt_3b067_1 : decode cJ1_charAt_3b067 1 = .ok (.aload_n 0, 1) := by decide +kernel
theorem dJ1_charAt_3b067_2 : decode cJ1_charAt_3b067 2 = .ok (.arraylength, 1) := by decide +kernel
theorem dJ1_charAt_3b067_3 : decode cJ1_charAt_3b067 3 = .ok (.invokestatic 9, 3) := by decide +kernel
theorem dJ1_charAt_3b067_6 : decode cJ1_charAt_3b067 6 = .ok (.aload_n 0, 1) := by decide +kernel
theorem dJ1_charAt_3b067_7 : decode cJ1_charAt_3b067 7 = .ok (.iload_n 1, 1) := by decide +kernel
theorem dJ1_charAt_3b067_8 : decode cJ1_charAt_3b067 8 = .ok (.baload, 1) := by decide +kernel
theorem dJ1_charAt_3b067_9 : decode cJ1_charAt_3b067 9 = .ok (.sipush 255, 3) := by decide +kernel
theorem dJ1_charAt_3b067_12 : decode cJ1_charAt_3b067 12 = .ok (.iand, 1) := by decide +kernel
theorem dJ1_charAt_3b067_13 : decode cJ1_charAt_3b067 13 = .ok (.i2c, 1) := by decide +kernel
theorem dJ1_charAt_3b067_14 : decode cJ1_charAt_3b067 14 = .ok (.ireturn, 1) := by decide +kernel
set_option maxRecDepth 20000 in
theorem ggJ2_getChar_3b067_J2_length_9d52b : GoodIn wsJ2_getChar_3b067 wsJ2_length_9d52b := goodIn_r _ [7] rfl (by decide +kernel)
set_option maxRecDepth 20000 in
theorem gJ2_getChar_3b067_J2_length_9d52b : GoodIn wsJ2_getChar_3b067 (va_wsS RJ2 48 yJ2_length_9d52b wsJ2_length_9d52b) := goodIn_app (goodIn_of _ (by decide +kernel)) ggJ2_getChar_3b067_J2_length_9d52b
theorem dJ2_getChar_3b067_0 : decode cJ2_getChar_3b067 0 = .ok (.getstatic 44, 3) := by decide +kernel
theorem dJ2_getChar_3b067_3 : decode cJ2_getChar_3b067 3 = .ok (.ifCond .ne 25, 3) := by decide +kernel
theorem dJ2_getChar_3b067_6 : decode cJ2_getChar_3b067 6 = .ok (.iload_n 1, 1) := by decide +kernel
theorem dJ2_getChar_3b067_7 : decode cJ2_getChar_3b067 7 = .ok (.ifCond .lt 11, 3) := by decide +kernel
theorem dJ2_getChar_3b067_10 : decode cJ2_getChar_3b067 10 = .ok (.iload_n 1, 1) := by decide +kernel
theorem dJ2_getChar_3b067_11 : decode cJ2_getChar_3b067 11 = .ok (.aload_n 0, 1) := by decide +kernel
theorem dJ2_getChar_3b067_12 : decode cJ2_getChar_3b067 12 = .ok (.invokestatic 48, 3) := by decide +kernel
theorem dJ2_getChar_3b067_15 : decode cJ2_getChar_3b067 15 = .ok (.if_icmp .lt 13, 3) := by decide +kernel
theorem dJ2_getChar_3b067_18 : decode cJ2_getChar_3b067 18 = .ok (.new 52, 3) := by decide +kernel
theorem dJ2_getChar_3b067_21 : decode cJ2_getChar_3b067 21 = .ok (.dup, 1) := by decide +kernel
theorem dJ2_getChar_3b067_22 : decode cJ2_getChar_3b067 22 = .ok (.ldc 54, 2) := by decide +kernel
theorem dJ2_getChar_3b067_24 : decode cJ2_getChar_3b067 24 = .ok (.invokespecial 56, 3) := by decide +kernel
theorem dJ2_getChar_3b067_27 : decode cJ2_getChar_3b067 27 = .ok (.athrow, 1) := by decide +kernel
theorem dJ2_getChar_3b067_28 : decode cJ2_getChar_3b067 28 = .ok (.iload_n 1, 1) := by decide +kernel
theorem dJ2_getChar_3b067_29 : decode cJ2_getChar_3b067 29 = .ok (.iconst 1, 1) := by decide +kernel
theorem dJ2_getChar_3b067_30 : decode cJ2_getChar_3b067 30 = .ok (.ishl, 1) := by decide +kernel
theorem dJ2_getChar_3b067_31 : decode cJ2_getChar_3b067 31 = .ok (.istore_n 1, 1) := by decide +kernel
theorem dJ2_getChar_3b067_32 : decode cJ2_getChar_3b067 32 = .ok (.aload_n 0, 1) := by decide +kernel
theorem dJ2_getChar_3b067_33 : decode cJ2_getChar_3b067 33 = .ok (.iload_n 1, 1) := by decide +kernel
theorem dJ2_getChar_3b067_34 : decode cJ2_getChar_3b067 34 = .ok (.iinc 1 1, 3) := by decide +kernel
theorem dJ2_getChar_3b067_37 : decode cJ2_getChar_3b067 37 = .ok (.baload, 1) := by decide +kernel
theorem dJ2_getChar_3b067_38 : decode cJ2_getChar_3b067 38 = .ok (.sipush 255, 3) := by decide +kernel
theorem dJ2_getChar_3b067_41 : decode cJ2_getChar_3b067 41 = .ok (.iand, 1) := by decide +kernel
theorem dJ2_getChar_3b067_42 : decode cJ2_getChar_3b067 42 = .ok (.getstatic 59, 3) := by decide +kernel
theorem dJ2_getChar_3b067_45 : decode cJ2_getChar_3b067 45 = .ok (.ishl, 1) := by decide +kernel
theorem dJ2_getChar_3b067_46 : decode cJ2_getChar_3b067 46 = .ok (.aload_n 0, 1) := by decide +kernel
theorem dJ2_getChar_3b067_47 : decode cJ2_getChar_3b067 47 = .ok (.iload_n 1, 1) := by decide +kernel
theorem dJ2_getChar_3b067_48 : decode cJ2_getChar_3b067 48 = .ok (.baload, 1) := by decide +kernel
theorem dJ2_getChar_3b067_49 : decode cJ2_getChar_3b067 49 = .ok (.sipush 255, 3) := by decide +kernel
theorem dJ2_getChar_3b067_52 : decode cJ2_getChar_3b067 52 = .ok (.iand, 1) := by decide +kernel
theorem dJ2_getChar_3b067_53 : decode cJ2_getChar_3b067 53 = .ok (.getstatic 63, 3) := by decide +kernel
theorem dJ2_getChar_3b067_56 : decode cJ2_getChar_3b067 56 = .ok (.ishl, 1) := by decide +kernel
theorem dJ2_getChar_3b067_57 : decode cJ2_getChar_3b067 57 = .ok (.ior, 1) := by decide +kernel
theorem dJ2_getChar_3b067_58 : decode cJ2_getChar_3b067 58 = .ok (.i2c, 1) := by decide +kernel
theorem dJ2_getChar_3b067_59 : decode cJ2_getChar_3b067 59 = .ok (.ireturn, 1) := by decide +kernel
theorem dJ2_length_9d52b_0 : decode cJ2_length_9d52b 0 = .ok (.aload_n 0, 1) := by decide +kernel
theorem dJ2_length_9d52b_1 : decode cJ2_length_9d52b 1 = .ok (.arraylength, 1) := by decide +kernel
theorem dJ2_length_9d52b_2 : decode cJ2_length_9d52b 2 = .ok (.iconst 1, 1) := by decide +kernel
theorem dJ2_length_9d52b_3 : decode cJ2_length_9d52b 3 = .ok (.ishr, 1) := by decide +kernel
theorem dJ2_length_9d52b_4 : decode cJ2_length_9d52b 4 = .ok (.ireturn, 1) := by decide +kernel
set_option maxRecDepth 20000 in
theorem ggJ2_charAt_3b067_J2_checkIndex_2214a : GoodIn wsJ2_charAt_3b067 wsJ2_checkIndex_2214a := goodIn_r _ [4, 5, 6, 3, 7, 8, 9, 10, 11, 12, 13, 14, 15, 16] rfl (by decide +kernel)
set_option maxRecDepth 20000 in
theorem gJ2_charAt_3b067_J2_checkIndex_2214a : GoodIn wsJ2_charAt_3b067 (va_wsS RJ2 67 yJ2_checkIndex_2214a wsJ2_checkIndex_2214a) := goodIn_app (goodIn_of _ (by decide +kernel)) ggJ2_charAt_3b067_J2_checkIndex_2214a
set_option maxRecDepth 20000 in
theorem ggJ2_charAt_3b067_J2_getChar_3b067 : GoodIn wsJ2_charAt_3b067 wsJ2_getChar_3b067 := goodIn_r _ [19, 20, 21, 22, 5, 6, 3, 7] rfl (by decide +kernel)
set_option maxRecDepth 20000 in
theorem gJ2_charAt_3b067_J2_getChar_3b067 : GoodIn wsJ2_charAt_3b067 (va_wsS RJ2 71 yJ2_getChar_3b067 wsJ2_getChar_3b067) := goodIn_app (goodIn_of _ (by decide +kernel)) ggJ2_charAt_3b067_J2_getChar_3b067
theorem dJ2_charAt_3b067_0 : decode cJ2_charAt_3b067 0 = .ok (.iload_n 1, 1) := by decide +kernel
theorem dJ2_charAt_3b067_1 : decode cJ2_charAt_3b067 1 = .ok (.aload_n 0, 1) := by decide +kernel
theorem dJ2_charAt_3b067_2 : decode cJ2_charAt_3b067 2 = .ok (.invokestatic 67, 3) := by decide +kernel
theorem dJ2_charAt_3b067_5 : decode cJ2_charAt_3b067 5 = .ok (.aload_n 0, 1) := by decide +kernel
theorem dJ2_charAt_3b067_6 : decode cJ2_charAt_3b067 6 = .ok (.iload_n 1, 1) := by decide +kernel
theorem dJ2_charAt_3b067_7 : decode cJ2_charAt_3b067 7 = .ok (.invokestatic 71, 3) := by decide +kernel
theorem dJ2_charAt_3b067_10 : decode cJ2_charAt_3b067 10 = .ok (.ireturn, 1) := by decide +kernel
set_option maxRecDepth 20000 in
theorem ggJ2_checkIndex_2214a_J2_length_9d52b : GoodIn wsJ2_checkIndex_2214a wsJ2_length_9d52b := goodIn_r _ [4] rfl (by decide +kernel)
set_option maxRecDepth 20000 in
theorem gJ2_checkIndex_2214a_J2_length_9d52b : GoodIn wsJ2_checkIndex_2214a (va_wsS RJ2 48 yJ2_length_9d52b wsJ2_length_9d52b) := goodIn_app (goodIn_of _ (by decide +kernel)) ggJ2_checkIndex_2214a_J2_length_9d52b
set_option maxRecDepth 20000 in
theorem ggJ2_checkIndex_2214a_J0_checkIndex_df160 : GoodIn wsJ2_checkIndex_2214a wsJ0_checkIndex_df160 := goodIn_r _ [8, 9, 10, 11, 12, 13] rfl (by decide +kernel)
set_option maxRecDepth 20000 in
theorem gJ2_checkIndex_2214a_J0_checkIndex_df160 : GoodIn wsJ2_checkIndex_2214a (va_wsS RJ2 414 yJ0_checkIndex_df160 wsJ0_checkIndex_df160) := goodIn_app (goodIn_of _ (by decide +kernel)) ggJ2_checkIndex_2214a_J0_checkIndex_df160
theorem dJ2_checkIndex_2214a_0 : decode cJ2_checkIndex_2214a 0 = .ok (.iload_n 0, 1) := by decide +kernel
theorem dJ2_checkIndex_2214a_1 : decode cJ2_checkIndex_2214a 1 = .ok (.aload_n 1, 1) := by decide +kernel
theorem dJ2_checkIndex_2214a_2 : decode cJ2_checkIndex_2214a 2 = .ok (.invokestatic 48, 3) := by decide +kernel
theorem dJ2_checkIndex_2214a_5 : decode cJ2_checkIndex_2214a 5 = .ok (.invokestatic 414, 3) := by decide +kernel
theorem dJ2_checkIndex_2214a_8 : decode cJ2_checkIndex_2214a 8 = .ok (.return_, 1) := by decide +kernel
theorem dJ7_fill_53178_0 : decode cJ7_fill_53178 0 = .ok (.iconst 0, 1) := by decide +kernel
theorem dJ7_fill_53178_1 : decode cJ7_fill_53178 1 = .ok (.istore_n 2, 1) := by decide +kernel
theorem dJ7_fill_53178_2 : decode cJ7_fill_53178 2 = .ok (.aload_n 0, 1) := by decide +kernel
theorem dJ7_fill_53178_3 : decode cJ7_fill_53178 3 = .ok (.arraylength, 1) := by decide +kernel
theorem dJ7_fill_53178_4 : decode cJ7_fill_53178 4 = .ok (.istore_n 3, 1) := by decide +kernel
theorem dJ7_fill_53178_5 : decode cJ7_fill_53178 5 = .ok (.iload_n 2, 1) := by decide +kernel
theorem dJ7_fill_53178_6 : decode cJ7_fill_53178 6 = .ok (.iload_n 3, 1) := by decide +kernel
theorem dJ7_fill_53178_7 : decode cJ7_fill_53178 7 = .ok (.if_icmp .ge 13, 3) := by decide +kernel
theorem dJ7_fill_53178_10 : decode cJ7_fill_53178 10 = .ok (.aload_n 0, 1) := by decide +kernel
theorem dJ7_fill_53178_11 : decode cJ7_fill_53178 11 = .ok (.iload_n 2, 1) := by decide +kernel
theorem dJ7_fill_53178_12 : decode cJ7_fill_53178 12 = .ok (.iload_n 1, 1) := by decide +kernel
theorem dJ7_fill_53178_13 : decode cJ7_fill_53178 13 = .ok (.iastore, 1) := by decide +kernel
theorem dJ7_fill_53178_14 : decode cJ7_fill_53178 14 = .ok (.iinc 2 1, 3) := by decide +kernel
theorem dJ7_fill_53178_17 : decode cJ7_fill_53178 17 = .ok (.goto (-12), 3) := by decide +kernel
theorem dJ7_fill_53178_20 : decode cJ7_fill_53178 20 = .ok (.return_, 1) := by decide +kernel
theorem dJ3_checkIndex_8e157_0 : decode cJ3_checkIndex_8e157 0 = .ok (.iload_n 0, 1) := by decide +kernel
theorem dJ3_checkIndex_8e157_1 : decode cJ3_checkIndex_8e157 1 = .ok (.ifCond .lt 8, 3) := by decide +kernel
theorem dJ3_checkIndex_8e157_4 : decode cJ3_checkIndex_8e157 4 = .ok (.iload_n 0, 1) := by decide +kernel
theorem dJ3_checkIndex_8e157_5 : decode cJ3_checkIndex_8e157 5 = .ok (.iload_n 1, 1) := by decide +kernel
theorem dJ3_checkIndex_8e157_6 : decode cJ3_checkIndex_8e157 6 = .ok (.if_icmp .lt 10, 3) := by decide +kernel
theorem dJ3_checkIndex_8e157_9 : decode cJ3_checkIndex_8e157 9 = .ok (.aload_n 2, 1) := by decide +kernel
theorem dJ3_checkIndex_8e157_10 : decode cJ3_checkIndex_8e157 10 = .ok (.iload_n 0, 1) := by decide +kernel
theorem dJ3_checkIndex_8e157_11 : decode cJ3_checkIndex_8e157 11 = .ok (.iload_n 1, 1) := by decide +kernel
theorem dJ3_checkIndex_8e157_12 : decode cJ3_checkIndex_8e157 12 = .ok (.invokestatic 95, 3) := by decide +kernel
theorem dJ3_checkIndex_8e157_15 : decode cJ3_checkIndex_8e157 15 = .ok (.athrow, 1) := by decide +kernel
theorem dJ3_checkIndex_8e157_16 : decode cJ3_checkIndex_8e157 16 = .ok (.iload_n 0, 1) := by decide +kernel
theorem dJ3_checkIndex_8e157_17 : decode cJ3_checkIndex_8e157 17 = .ok (.ireturn, 1) := by decide +kernel
set_option maxRecDepth 20000 in
theorem ggL_append_X11_append : GoodIn wsL_append wsX11_append := goodIn_ca (goodIn_r _ [6, 7, 8, 9, 10, 11, 12, 13, 14, 15, 16, 17, 18, 19, 20, 21, 22, 23, 24, 25, 26, 27, 28, 29, 30, 31, 32, 33] rfl (by decide +kernel)) (goodIn_sub (fun _ h => List.mem_cons_of_mem _ (List.mem_append_right _ h)) (by decide +kernel))
set_option maxRecDepth 20000 in
theorem gL_append_X11_append : GoodIn wsL_append (wsV RL 7 RX11 yX11_append wsX11_append) := goodIn_app (goodIn_of _ (by decide +kernel)) ggL_append_X11_append
theorem dL_append_0 : decode cL_append 0 = .ok (.aload 6, 2) := by decide +kernel
theorem dL_append_2 : decode cL_append 2 = .ok (.iconst 0, 1) := by decide +kernel
theorem dL_append_3 : decode cL_append 3 = .ok (.aload_n 0, 1) := by decide +kernel
theorem dL_append_4 : decode cL_append 4 = .ok (.iload_n 1, 1) := by decide +kernel
theorem dL_append_5 : decode cL_append 5 = .ok (.iload_n 2, 1) := by decide +kernel
theorem dL_append_6 : decode cL_append 6 = .ok (.iload_n 3, 1) := by decide +kernel
theorem dL_append_7 : decode cL_append 7 = .ok (.iload 4, 2) := by decide +kernel
theorem dL_append_9 : decode cL_append 9 = .ok (.iload 5, 2) := by decide +kernel
theorem dL_append_11 : decode cL_append 11 = .ok (.invokevirtual 7, 3) := by decide +kernel
theorem dL_append_14 : decode cL_append 14 = .ok (.i2l, 1) := by decide +kernel
theorem dL_append_15 : decode cL_append 15 = .ok (.lastore, 1) := by decide +kernel
theorem dL_append_16 : decode cL_append 16 = .ok (.goto 7, 3) := by decide +kernel
theorem dL_append_19 : decode cL_append 19 = .ok (.astore 7, 2) := by decide +kernel
theorem dL_append_21 : decode cL_append 21 = .ok (.iconst 1, 1) := by decide +kernel
theorem dL_append_22 : decode cL_append 22 = .ok (.ireturn, 1) := by decide +kernel
theorem dL_append_23 : decode cL_append 23 = .ok (.iconst 0, 1) := by decide +kernel
theorem dL_append_24 : decode cL_append 24 = .ok (.ireturn, 1) := by decide +kernel
set_option maxRecDepth 20000 in
theorem ggL_truncate_X11_truncate : GoodIn wsL_truncate wsX11_truncate := goodIn_ca (goodIn_r _ [6, 7, 8, 9, 10, 11, 5, 12, 13, 14, 15, 16, 17, 18, 19, 20, 21, 22, 23, 24, 25] rfl (by decide +kernel)) (goodIn_sub (fun _ h => List.mem_cons_of_mem _ (List.mem_append_right _ h)) (by decide +kernel))
set_option maxRecDepth 20000 in
theorem gL_truncate_X11_truncate : GoodIn wsL_truncate (wsV RL 15 RX11 yX11_truncate wsX11_truncate) := goodIn_app (goodIn_of _ (by decide +kernel)) ggL_truncate_X11_truncate
theorem dL_truncate_0 : decode cL_truncate 0 = .ok (.aload_n 2, 1) := by decide +kernel
theorem dL_truncate_1 : decode cL_truncate 1 = .ok (.iconst 0, 1) := by decide +kernel
theorem dL_truncate_2 : decode cL_truncate 2 = .ok (.aload_n 0, 1) := by decide +kernel
theorem dL_truncate_3 : decode cL_truncate 3 = .ok (.iload_n 1, 1) := by decide +kernel
theorem dL_truncate_4 : decode cL_truncate 4 = .ok (.invokevirtual 15, 3) := by decide +kernel
theorem dL_truncate_7 : decode cL_truncate 7 = .ok (.i2l, 1) := by decide +kernel
theorem dL_truncate_8 : decode cL_truncate 8 = .ok (.lastore, 1) := by decide +kernel
theorem dL_truncate_9 : decode cL_truncate 9 = .ok (.goto 6, 3) := by decide +kernel
theorem dL_truncate_12 : decode cL_truncate 12 = .ok (.astore_n 3, 1) := by decide +kernel
theorem dL_truncate_13 : decode cL_truncate 13 = .ok (.iconst 1, 1) := by decide +kernel
theorem dL_truncate_14 : decode cL_truncate 14 = .ok (.ireturn, 1) := by decide +kernel
theorem dL_truncate_15 : decode cL_truncate 15 = .ok (.iconst 0, 1) := by decide +kernel
theorem dL_truncate_16 : decode cL_truncate 16 = .ok (.ireturn, 1) := by decide +kernel
set_option maxRecDepth 20000 in
theorem ggL_load_X11_load : GoodIn wsL_load wsX11_load := goodIn_ca (goodIn_r _ [6, 7, 8, 9, 10, 11, 12, 13, 14, 15, 16, 17, 18, 19, 20, 21, 22, 23, 24, 25, 26, 27, 28, 29, 30, 31, 32, 33, 34, 35, 36, 37, 38, 39, 40, 41, 42, 43, 44, 45, 46, 47, 48, 49, 50, 51, 52, 53, 54, 5, 55, 56, 57, 58, 59, 60, 61, 62, 63, 64, 65, 66, 67, 68, 69, 70, 71, 72, 73, 74, 75, 76, 77, 78, 79, 80, 81, 82, 83, 84, 85, 86, 87, 88, 89, 90, 91, 92, 93, 94, 95, 96, 97, 98, 99, 100, 101, 102, 103, 104, 105, 106, 107, 108, 109, 110, 111, 112, 113, 114, 115, 116, 117, 118, 119, 120, 121, 122, 123, 124, 125, 126, 127, 128, 129, 130, 131, 132, 133, 134, 135, 136, 137, 138, 139, 140, 141, 142, 143, 144, 145, 146, 147, 148, 149, 150, 151, 152, 153, 154, 155, 156, 157, 158, 159, 160, 161, 162, 163, 164, 165, 166, 167, 168, 169, 170, 171, 172, 173, 174, 175, 176, 177, 178, 179, 180, 181, 182, 183, 184, 185, 186, 187, 188, 189, 190, 191, 192, 193, 194, 195, 196, 197, 198, 199, 200, 201, 202, 203, 204, 205, 206, 207, 208, 209, 210, 211, 212, 213, 214, 215, 216, 217, 218, 219, 220, 221, 222, 223, 224, 225, 226, 227, 228, 229, 230, 231, 232, 233, 234, 235, 236, 237, 238, 239, 240, 241, 242, 243, 244, 245, 246, 247, 248, 249, 250, 251, 252, 253, 254, 255, 256, 257, 258, 259, 260, 261, 262, 263, 264, 265, 266, 267, 268, 269, 270, 271, 272, 273, 274, 275, 276, 277, 278, 279, 280, 281, 282, 283, 284, 285, 286, 287, 288, 289, 290, 291, 292, 293, 294, 295, 296, 297] rfl (by decide +kernel)) (goodIn_sub (fun _ h => List.mem_cons_of_mem _ (List.mem_append_right _ h)) (by decide +kernel))
set_option maxRecDepth 20000 in
theorem gL_load_X11_load : GoodIn wsL_load (wsV RL 21 RX11 yX11_load wsX11_load) := goodIn_app (goodIn_of _ (by decide +kernel)) ggL_load_X11_load
theorem dL_load_0 : decode cL_load 0 = .ok (.aload_n 1, 1) := by decide +kernel
theorem dL_load_1 : decode cL_load 1 = .ok (.iconst 0, 1) := by decide +kernel
theorem dL_load_2 : decode cL_load 2 = .ok (.aload_n 0, 1) := by decide +kernel
theorem dL_load_3 : decode cL_load 3 = .ok (.invokevirtual 21, 3) := by decide +kernel
theorem dL_load_6 : decode cL_load 6 = .ok (.i2l, 1) := by decide +kernel
theorem dL_load_7 : decode cL_load 7 = .ok (.lastore, 1) := by decide +kernel
theorem dL_load_8 : decode cL_load 8 = .ok (.goto 6, 3) := by decide +kernel
theorem dL_load_11 : decode cL_load 11 = .ok (.astore_n 2, 1) := by decide +kernel
theorem dL_load_12 : decode cL_load 12 = .ok (.iconst 1, 1) := by decide +kernel
theorem dL_load_13 : decode cL_load 13 = .ok (.ireturn, 1) := by decide +kernel
theorem dL_load_14 : decode cL_load 14 = .ok (.iconst 0, 1) := by decide +kernel
theorem dL_load_15 : decode cL_load 15 = .ok (.ireturn, 1) := by decide +kernel
set_option maxRecDepth 20000 in
theorem ggL_countWithStatus_X11_countWithStatus : GoodIn wsL_countWithStatus wsX11_countWithStatus := goodIn_ca (goodIn_r _ [6, 7, 8, 9, 10, 11, 5, 12, 13, 14, 15, 16, 17, 18, 19, 20, 21, 22, 23, 24, 25, 26, 27, 28, 29, 30, 31, 32, 33, 34, 35, 36, 37, 38, 39, 40, 41, 42, 43, 44, 45, 46, 47, 48, 49, 50, 51, 52, 53, 54, 55, 56, 57, 58, 59, 60, 61, 62, 63, 64, 65, 66, 67, 68, 69, 70, 71, 72, 73] rfl (by decide +kernel)) (goodIn_sub (fun _ h => List.mem_cons_of_mem _ (List.mem_append_right _ h)) (by decide +kernel))
set_option maxRecDepth 20000 in
theorem gL_countWithStatus_X11_countWithStatus : GoodIn wsL_countWithStatus (wsV RL 25 RX11 yX11_countWithStatus wsX11_countWithStatus) := goodIn_app (goodIn_of _ (by decide +kernel)) ggL_countWithStatus_X11_countWithStatus
theorem dL_countWithStatus_0 : decode cL_countWithStatus 0 = .ok (.aload_n 2, 1) := by decide +kernel
theorem dL_countWithStatus_1 : decode cL_countWithStatus 1 = .ok (.iconst 0, 1) := by decide +kernel
theorem dL_countWithStatus_2 : decode cL_countWithStatus 2 = .ok (.aload_n 0, 1) := by decide +kernel
theorem dL_countWithStatus_3 : decode cL_countWithStatus 3 = .ok (.iload_n 1, 1) := by decide +kernel
theorem dL_countWithStatus_4 : decode cL_countWithStatus 4 = .ok (.invokevirtual 25, 3) := by decide +kernel
theorem dL_countWithStatus_7 : decode cL_countWithStatus 7 = .ok (.i2l, 1) := by decide +kernel
theorem dL_countWithStatus_8 : decode cL_countWithStatus 8 = .ok (.lastore, 1) := by decide +kernel
theorem dL_countWithStatus_9 : decode cL_countWithStatus 9 = .ok (.goto 6, 3) := by decide +kernel
theorem dL_countWithStatus_12 : decode cL_countWithStatus 12 = .ok (.astore_n 3, 1) := by decide +kernel
theorem dL_countWithStatus_13 : decode cL_countWithStatus 13 = .ok (.iconst 1, 1) := by decide +kernel
theorem dL_countWithStatus_14 : decode cL_countWithStatus 14 = .ok (.ireturn, 1) := by decide +kernel
theorem dL_countWithStatus_15 : decode cL_countWithStatus 15 = .ok (.iconst 0, 1) := by decide +kernel
theorem dL_countWithStatus_16 : decode cL_countWithStatus 16 = .ok (.ireturn, 1) := by decide +kernel
set_option maxRecDepth 20000 in
theorem ggL_panCapacity_X11_panCapacity : GoodIn wsL_panCapacity wsX11_panCapacity := goodIn_ca (goodIn_r _ [6, 7, 8, 9, 10, 5, 11, 12, 13, 14, 15, 16, 17, 18, 19, 20, 21, 22, 23, 24, 25, 26, 27, 28, 29, 30, 31, 32, 33, 34, 35, 36, 37, 38, 39, 40, 41, 42, 43, 44, 45, 46, 47, 48, 49, 50, 51, 52] rfl (by decide +kernel)) (goodIn_sub (fun _ h => List.mem_cons_of_mem _ (List.mem_append_right _ h)) (by decide +kernel))
set_option maxRecDepth 20000 in
theorem gL_panCapacity_X11_panCapacity : GoodIn wsL_panCapacity (wsV RL 28 RX11 yX11_panCapacity wsX11_panCapacity) := goodIn_app (goodIn_of _ (by decide +kernel)) ggL_panCapacity_X11_panCapacity
theorem dL_panCapacity_0 : decode cL_panCapacity 0 = .ok (.aload_n 2, 1) := by decide +kernel
theorem dL_panCapacity_1 : decode cL_panCapacity 1 = .ok (.iconst 0, 1) := by decide +kernel
theorem dL_panCapacity_2 : decode cL_panCapacity 2 = .ok (.aload_n 0, 1) := by decide +kernel
theorem dL_panCapacity_3 : decode cL_panCapacity 3 = .ok (.iload_n 1, 1) := by decide +kernel
theorem dL_panCapacity_4 : decode cL_panCapacity 4 = .ok (.invokevirtual 28, 3) := by decide +kernel
theorem dL_panCapacity_7 : decode cL_panCapacity 7 = .ok (.i2l, 1) := by decide +kernel
theorem dL_panCapacity_8 : decode cL_panCapacity 8 = .ok (.lastore, 1) := by decide +kernel
theorem dL_panCapacity_9 : decode cL_panCapacity 9 = .ok (.goto 6, 3) := by decide +kernel
theorem dL_panCapacity_12 : decode cL_panCapacity 12 = .ok (.astore_n 3, 1) := by decide +kernel
theorem dL_panCapacity_13 : decode cL_panCapacity 13 = .ok (.iconst 1, 1) := by decide +kernel
theorem dL_panCapacity_14 : decode cL_panCapacity 14 = .ok (.ireturn, 1) := by decide +kernel
theorem dL_panCapacity_15 : decode cL_panCapacity 15 = .ok (.iconst 0, 1) := by decide +kernel
theorem dL_panCapacity_16 : decode cL_panCapacity 16 = .ok (.ireturn, 1) := by decide +kernel
set_option maxRecDepth 20000 in
theorem ggL_pansInUse_X11_pansInUse : GoodIn wsL_pansInUse wsX11_pansInUse := goodIn_ca (goodIn_r _ [6, 7, 8, 9, 10, 5, 11, 12, 13, 14, 15, 16, 17, 18, 19, 20, 21, 22, 23, 24, 25, 26, 27, 28, 29, 30, 31, 32, 33, 34, 35, 36, 37, 38, 39, 40, 41, 42, 43, 44, 45, 46, 47, 48, 49, 50, 51, 52, 53, 54, 55, 56, 57, 58, 59, 60, 61, 62, 63, 64, 65, 66, 67, 68, 69, 70, 71, 72, 73, 74, 75, 76, 77, 78, 79, 80, 81] rfl (by decide +kernel)) (goodIn_sub (fun _ h => List.mem_cons_of_mem _ (List.mem_append_right _ h)) (by decide +kernel))
set_option maxRecDepth 20000 in
theorem gL_pansInUse_X11_pansInUse : GoodIn wsL_pansInUse (wsV RL 33 RX11 yX11_pansInUse wsX11_pansInUse) := goodIn_app (goodIn_of _ (by decide +kernel)) ggL_pansInUse_X11_pansInUse
theorem dL_pansInUse_0 : decode cL_pansInUse 0 = .ok (.aload_n 2, 1) := by decide +kernel
theorem dL_pansInUse_1 : decode cL_pansInUse 1 = .ok (.iconst 0, 1) := by decide +kernel
theorem dL_pansInUse_2 : decode cL_pansInUse 2 = .ok (.aload_n 0, 1) := by decide +kernel
theorem dL_pansInUse_3 : decode cL_pansInUse 3 = .ok (.iload_n 1, 1) := by decide +kernel
theorem dL_pansInUse_4 : decode cL_pansInUse 4 = .ok (.invokevirtual 33, 3) := by decide +kernel
theorem dL_pansInUse_7 : decode cL_pansInUse 7 = .ok (.i2l, 1) := by decide +kernel
theorem dL_pansInUse_8 : decode cL_pansInUse 8 = .ok (.lastore, 1) := by decide +kernel
theorem dL_pansInUse_9 : decode cL_pansInUse 9 = .ok (.goto 6, 3) := by decide +kernel
theorem dL_pansInUse_12 : decode cL_pansInUse 12 = .ok (.astore_n 3, 1) := by decide +kernel
theorem dL_pansInUse_13 : decode cL_pansInUse 13 = .ok (.iconst 1, 1) := by decide +kernel
theorem dL_pansInUse_14 : decode cL_pansInUse 14 = .ok (.ireturn, 1) := by decide +kernel
theorem dL_pansInUse_15 : decode cL_pansInUse 15 = .ok (.iconst 0, 1) := by decide +kernel
theorem dL_pansInUse_16 : decode cL_pansInUse 16 = .ok (.ireturn, 1) := by decide +kernel
set_option maxRecDepth 20000 in
theorem ggL_duration_X11_duration : GoodIn wsL_duration wsX11_duration := goodIn_ca (goodIn_r _ [6, 7, 8, 9, 10, 5, 11, 12, 13, 14, 15, 16, 17, 18, 19, 20, 21, 22, 23, 24, 25, 26, 27, 28, 29, 30, 31, 32, 33, 34, 35, 36, 37, 38, 39, 40, 41, 42, 43, 44, 45, 46, 47, 48, 49, 50, 51, 52, 53, 54, 55, 56, 57, 58, 59, 60, 61, 62, 63, 64, 65, 66, 67] rfl (by decide +kernel)) (goodIn_sub (fun _ h => List.mem_cons_of_mem _ (List.mem_append_right _ h)) (by decide +kernel))
set_option maxRecDepth 20000 in
theorem gL_duration_X11_duration : GoodIn wsL_duration (wsV RL 36 RX11 yX11_duration wsX11_duration) := goodIn_app (goodIn_of _ (by decide +kernel)) ggL_duration_X11_duration
theorem dL_duration_0 : decode cL_duration 0 = .ok (.aload_n 2, 1) := by decide +kernel
theorem dL_duration_1 : decode cL_duration 1 = .ok (.iconst 0, 1) := by decide +kernel
theorem dL_duration_2 : decode cL_duration 2 = .ok (.aload_n 0, 1) := by decide +kernel
theorem dL_duration_3 : decode cL_duration 3 = .ok (.iload_n 1, 1) := by decide +kernel
theorem dL_duration_4 : decode cL_duration 4 = .ok (.invokevirtual 36, 3) := by decide +kernel
theorem dL_duration_7 : decode cL_duration 7 = .ok (.i2l, 1) := by decide +kernel
theorem dL_duration_8 : decode cL_duration 8 = .ok (.lastore, 1) := by decide +kernel
theorem dL_duration_9 : decode cL_duration 9 = .ok (.goto 6, 3) := by decide +kernel
theorem dL_duration_12 : decode cL_duration 12 = .ok (.astore_n 3, 1) := by decide +kernel
theorem dL_duration_13 : decode cL_duration 13 = .ok (.iconst 1, 1) := by decide +kernel
theorem dL_duration_14 : decode cL_duration 14 = .ok (.ireturn, 1) := by decide +kernel
theorem dL_duration_15 : decode cL_duration 15 = .ok (.iconst 0, 1) := by decide +kernel
theorem dL_duration_16 : decode cL_duration 16 = .ok (.ireturn, 1) := by decide +kernel
set_option maxRecDepth 20000 in
theorem ggL_stepTaste_X11_stepTaste : GoodIn wsL_stepTaste wsX11_stepTaste := goodIn_ca (goodIn_r _ [6, 7, 8, 9, 10, 5, 11, 12, 13, 14, 15, 16, 17, 18, 19, 20, 21, 22, 23, 24, 25, 26, 27, 28, 29, 30, 31, 32, 33, 34, 35, 36, 37, 38, 39, 40, 41, 42, 43, 44, 45, 46, 47, 48, 49, 50, 51, 52] rfl (by decide +kernel)) (goodIn_sub (fun _ h => List.mem_cons_of_mem _ (List.mem_append_right _ h)) (by decide +kernel))
set_option maxRecDepth 20000 in
theorem gL_stepTaste_X11_stepTaste : GoodIn wsL_stepTaste (wsV RL 39 RX11 yX11_stepTaste wsX11_stepTaste) := goodIn_app (goodIn_of _ (by decide +kernel)) ggL_stepTaste_X11_stepTaste
theorem dL_stepTaste_0 : decode cL_stepTaste 0 = .ok (.aload_n 2, 1) := by decide +kernel
theorem dL_stepTaste_1 : decode cL_stepTaste 1 = .ok (.iconst 0, 1) := by decide +kernel
theorem dL_stepTaste_2 : decode cL_stepTaste 2 = .ok (.aload_n 0, 1) := by decide +kernel
theorem dL_stepTaste_3 : decode cL_stepTaste 3 = .ok (.iload_n 1, 1) := by decide +kernel
theorem dL_stepTaste_4 : decode cL_stepTaste 4 = .ok (.invokevirtual 39, 3) := by decide +kernel
theorem dL_stepTaste_7 : decode cL_stepTaste 7 = .ok (.i2l, 1) := by decide +kernel
theorem dL_stepTaste_8 : decode cL_stepTaste 8 = .ok (.lastore, 1) := by decide +kernel
theorem dL_stepTaste_9 : decode cL_stepTaste 9 = .ok (.goto 6, 3) := by decide +kernel
theorem dL_stepTaste_12 : decode cL_stepTaste 12 = .ok (.astore_n 3, 1) := by decide +kernel
theorem dL_stepTaste_13 : decode cL_stepTaste 13 = .ok (.iconst 1, 1) := by decide +kernel
theorem dL_stepTaste_14 : decode cL_stepTaste 14 = .ok (.ireturn, 1) := by decide +kernel
theorem dL_stepTaste_15 : decode cL_stepTaste 15 = .ok (.iconst 0, 1) := by decide +kernel
theorem dL_stepTaste_16 : decode cL_stepTaste 16 = .ok (.ireturn, 1) := by decide +kernel
set_option maxRecDepth 20000 in
theorem ggL_panType_X11_panType : GoodIn wsL_panType wsX11_panType := goodIn_ca (goodIn_r _ [6, 7, 8, 9, 10, 5, 11, 12, 13, 14, 15, 16, 17, 18, 19, 20, 21, 22, 23, 24, 25, 26, 27, 28, 29, 30, 31, 32, 33, 34, 35, 36, 37, 38, 39, 40, 41, 42, 43, 44, 45, 46, 47, 48, 49, 50, 51, 52] rfl (by decide +kernel)) (goodIn_sub (fun _ h => List.mem_cons_of_mem _ (List.mem_append_right _ h)) (by decide +kernel))
set_option maxRecDepth 20000 in
theorem gL_panType_X11_panType : GoodIn wsL_panType (wsV RL 42 RX11 yX11_panType wsX11_panType) := goodIn_app (goodIn_of _ (by decide +kernel)) ggL_panType_X11_panType
theorem dL_panType_0 : decode cL_panType 0 = .ok (.aload_n 2, 1) := by decide +kernel
theorem dL_panType_1 : decode cL_panType 1 = .ok (.iconst 0, 1) := by decide +kernel
theorem dL_panType_2 : decode cL_panType 2 = .ok (.aload_n 0, 1) := by decide +kernel
theorem dL_panType_3 : decode cL_panType 3 = .ok (.iload_n 1, 1) := by decide +kernel
theorem dL_panType_4 : decode cL_panType 4 = .ok (.invokevirtual 42, 3) := by decide +kernel
theorem dL_panType_7 : decode cL_panType 7 = .ok (.i2l, 1) := by decide +kernel
theorem dL_panType_8 : decode cL_panType 8 = .ok (.lastore, 1) := by decide +kernel
theorem dL_panType_9 : decode cL_panType 9 = .ok (.goto 6, 3) := by decide +kernel
theorem dL_panType_12 : decode cL_panType 12 = .ok (.astore_n 3, 1) := by decide +kernel
theorem dL_panType_13 : decode cL_panType 13 = .ok (.iconst 1, 1) := by decide +kernel
theorem dL_panType_14 : decode cL_panType 14 = .ok (.ireturn, 1) := by decide +kernel
theorem dL_panType_15 : decode cL_panType 15 = .ok (.iconst 0, 1) := by decide +kernel
theorem dL_panType_16 : decode cL_panType 16 = .ok (.ireturn, 1) := by decide +kernel
set_option maxRecDepth 20000 in
theorem ggL_isHot_X11_isHot : GoodIn wsL_isHot wsX11_isHot := goodIn_ca (goodIn_r _ [6, 7, 8, 9, 10, 5, 11, 12, 13, 14, 15, 16, 17, 18, 19, 20, 21, 22, 23, 24, 25, 26, 27, 28, 29, 30, 31, 32, 33, 34, 35, 36, 37, 38, 39, 40, 41, 42, 43, 44, 45, 46, 47, 48, 49, 50, 51, 52, 53, 54, 55] rfl (by decide +kernel)) (goodIn_sub (fun _ h => List.mem_cons_of_mem _ (List.mem_append_right _ h)) (by decide +kernel))
set_option maxRecDepth 20000 in
theorem gL_isHot_X11_isHot : GoodIn wsL_isHot (wsV RL 45 RX11 yX11_isHot wsX11_isHot) := goodIn_app (goodIn_of _ (by decide +kernel)) ggL_isHot_X11_isHot
theorem dL_isHot_0 : decode cL_isHot 0 = .ok (.aload_n 2, 1) := by decide +kernel
theorem dL_isHot_1 : decode cL_isHot 1 = .ok (.iconst 0, 1) := by decide +kernel
theorem dL_isHot_2 : decode cL_isHot 2 = .ok (.aload_n 0, 1) := by decide +kernel
theorem dL_isHot_3 : decode cL_isHot 3 = .ok (.iload_n 1, 1) := by decide +kernel
theorem dL_isHot_4 : decode cL_isHot 4 = .ok (.invokevirtual 45, 3) := by decide +kernel
theorem dL_isHot_7 : decode cL_isHot 7 = .ok (.ifCond .eq 7, 3) := by decide +kernel
theorem dL_isHot_10 : decode cL_isHot 10 = .ok (.lconst 1, 1) := by decide +kernel
theorem dL_isHot_11 : decode cL_isHot 11 = .ok (.goto 4, 3) := by decide +kernel
theorem dL_isHot_14 : decode cL_isHot 14 = .ok (.lconst 0, 1) := by decide +kernel
theorem dL_isHot_15 : decode cL_isHot 15 = .ok (.lastore, 1) := by decide +kernel
theorem dL_isHot_16 : decode cL_isHot 16 = .ok (.goto 6, 3) := by decide +kernel
theorem dL_isHot_19 : decode cL_isHot 19 = .ok (.astore_n 3, 1) := by decide +kernel
theorem dL_isHot_20 : decode cL_isHot 20 = .ok (.iconst 1, 1) := by decide +kernel
theorem dL_isHot_21 : decode cL_isHot 21 = .ok (.ireturn, 1) := by decide +kernel
theorem dL_isHot_22 : decode cL_isHot 22 = .ok (.iconst 0, 1) := by decide +kernel
theorem dL_isHot_23 : decode cL_isHot 23 = .ok (.ireturn, 1) := by decide +kernel
set_option maxRecDepth 20000 in
theorem ggL_isUnattended_X11_isUnattended : GoodIn wsL_isUnattended wsX11_isUnattended := goodIn_ca (goodIn_r _ [6, 7, 8, 9, 10, 5, 11, 12, 13, 14, 15, 16, 17, 18, 19, 20, 21, 22, 23, 24, 25, 26, 27, 28, 29, 30, 31, 32, 33, 34, 35, 36, 37, 38, 39, 40, 41, 42, 43, 44, 45, 46, 47, 48, 49, 50, 51, 52, 53, 54, 55] rfl (by decide +kernel)) (goodIn_sub (fun _ h => List.mem_cons_of_mem _ (List.mem_append_right _ h)) (by decide +kernel))
set_option maxRecDepth 20000 in
theorem gL_isUnattended_X11_isUnattended : GoodIn wsL_isUnattended (wsV RL 49 RX11 yX11_isUnattended wsX11_isUnattended) := goodIn_app (goodIn_of _ (by decide +kernel)) ggL_isUnattended_X11_isUnattended
theorem dL_isUnattended_0 : decode cL_isUnattended 0 = .ok (.aload_n 2, 1) := by decide +kernel
theorem dL_isUnattended_1 : decode cL_isUnattended 1 = .ok (.iconst 0, 1) := by decide +kernel
theorem dL_isUnattended_2 : decode cL_isUnattended 2 = .ok (.aload_n 0, 1) := by decide +kernel
theorem dL_isUnattended_3 : decode cL_isUnattended 3 = .ok (.iload_n 1, 1) := by decide +kernel
theorem dL_isUnattended_4 : decode cL_isUnattended 4 = .ok (.invokevirtual 49, 3) := by decide +kernel
theorem dL_isUnattended_7 : decode cL_isUnattended 7 = .ok (.ifCond .eq 7, 3) := by decide +kernel
theorem dL_isUnattended_10 : decode cL_isUnattended 10 = .ok (.lconst 1, 1) := by decide +kernel
theorem dL_isUnattended_11 : decode cL_isUnattended 11 = .ok (.goto 4, 3) := by decide +kernel
theorem dL_isUnattended_14 : decode cL_isUnattended 14 = .ok (.lconst 0, 1) := by decide +kernel
theorem dL_isUnattended_15 : decode cL_isUnattended 15 = .ok (.lastore, 1) := by decide +kernel
theorem dL_isUnattended_16 : decode cL_isUnattended 16 = .ok (.goto 6, 3) := by decide +kernel
theorem dL_isUnattended_19 : decode cL_isUnattended 19 = .ok (.astore_n 3, 1) := by decide +kernel
theorem dL_isUnattended_20 : decode cL_isUnattended 20 = .ok (.iconst 1, 1) := by decide +kernel
theorem dL_isUnattended_21 : decode cL_isUnattended 21 = .ok (.ireturn, 1) := by decide +kernel
theorem dL_isUnattended_22 : decode cL_isUnattended 22 = .ok (.iconst 0, 1) := by decide +kernel
theorem dL_isUnattended_23 : decode cL_isUnattended 23 = .ok (.ireturn, 1) := by decide +kernel
set_option maxRecDepth 20000 in
theorem ggL_predecessor_X11_predecessor : GoodIn wsL_predecessor wsX11_predecessor := goodIn_ca (goodIn_r _ [6, 7, 8, 9, 10, 5, 11, 12, 13, 14, 15, 16, 17, 18, 19, 20, 21, 22, 23, 24, 25, 26, 27, 28, 29, 30, 31, 32, 33, 34, 35, 36, 37, 38, 39, 40, 41, 42, 43, 44, 45, 46, 47, 48, 49, 50, 51, 52] rfl (by decide +kernel)) (goodIn_sub (fun _ h => List.mem_cons_of_mem _ (List.mem_append_right _ h)) (by decide +kernel))
set_option maxRecDepth 20000 in
theorem gL_predecessor_X11_predecessor : GoodIn wsL_predecessor (wsV RL 52 RX11 yX11_predecessor wsX11_predecessor) := goodIn_app (goodIn_of _ (by decide +kernel)) ggL_predecessor_X11_predecessor
theorem dL_predecessor_0 : decode cL_predecessor 0 = .ok (.aload_n 3, 1) := by decide +kernel
theorem dL_predecessor_1 : decode cL_predecessor 1 = .ok (.iconst 0, 1) := by decide +kernel
theorem dL_predecessor_2 : decode cL_predecessor 2 = .ok (.aload_n 0, 1) := by decide +kernel
theorem dL_predecessor_3 : decode cL_predecessor 3 = .ok (.iload_n 1, 1) := by decide +kernel
theorem dL_predecessor_4 : decode cL_predecessor 4 = .ok (.iload_n 2, 1) := by decide +kernel
theorem dL_predecessor_5 : decode cL_predecessor 5 = .ok (.invokevirtual 52, 3) := by decide +kernel
theorem dL_predecessor_8 : decode cL_predecessor 8 = .ok (.i2l, 1) := by decide +kernel
theorem dL_predecessor_9 : decode cL_predecessor 9 = .ok (.lastore, 1) := by decide +kernel
theorem dL_predecessor_10 : decode cL_predecessor 10 = .ok (.goto 7, 3) := by decide +kernel
theorem dL_predecessor_13 : decode cL_predecessor 13 = .ok (.astore 4, 2) := by decide +kernel
theorem dL_predecessor_15 : decode cL_predecessor 15 = .ok (.iconst 1, 1) := by decide +kernel
theorem dL_predecessor_16 : decode cL_predecessor 16 = .ok (.ireturn, 1) := by decide +kernel
theorem dL_predecessor_17 : decode cL_predecessor 17 = .ok (.iconst 0, 1) := by decide +kernel
theorem dL_predecessor_18 : decode cL_predecessor 18 = .ok (.ireturn, 1) := by decide +kernel
set_option maxRecDepth 20000 in
theorem ggL_successorCount_X11_successorCount : GoodIn wsL_successorCount wsX11_successorCount := goodIn_ca (goodIn_r _ [6, 7, 8, 9, 10, 5, 11, 12, 13, 14, 15, 16, 17, 18, 19, 20, 21, 22, 23, 24, 25, 26, 27, 28, 29, 30, 31, 32, 33, 34, 35, 36, 37, 38, 39, 40, 41, 42, 43, 44, 45, 46, 47, 48, 49, 50, 51, 52, 53, 54, 55, 56, 57, 58, 59] rfl (by decide +kernel)) (goodIn_sub (fun _ h => List.mem_cons_of_mem _ (List.mem_append_right _ h)) (by decide +kernel))
set_option maxRecDepth 20000 in
theorem gL_successorCount_X11_successorCount : GoodIn wsL_successorCount (wsV RL 56 RX11 yX11_successorCount wsX11_successorCount) := goodIn_app (goodIn_of _ (by decide +kernel)) ggL_successorCount_X11_successorCount
theorem dL_successorCount_0 : decode cL_successorCount 0 = .ok (.aload_n 2, 1) := by decide +kernel
theorem dL_successorCount_1 : decode cL_successorCount 1 = .ok (.iconst 0, 1) := by decide +kernel
theorem dL_successorCount_2 : decode cL_successorCount 2 = .ok (.aload_n 0, 1) := by decide +kernel
theorem dL_successorCount_3 : decode cL_successorCount 3 = .ok (.iload_n 1, 1) := by decide +kernel
theorem dL_successorCount_4 : decode cL_successorCount 4 = .ok (.invokevirtual 56, 3) := by decide +kernel
theorem dL_successorCount_7 : decode cL_successorCount 7 = .ok (.i2l, 1) := by decide +kernel
theorem dL_successorCount_8 : decode cL_successorCount 8 = .ok (.lastore, 1) := by decide +kernel
theorem dL_successorCount_9 : decode cL_successorCount 9 = .ok (.goto 6, 3) := by decide +kernel
theorem dL_successorCount_12 : decode cL_successorCount 12 = .ok (.astore_n 3, 1) := by decide +kernel
theorem dL_successorCount_13 : decode cL_successorCount 13 = .ok (.iconst 1, 1) := by decide +kernel
theorem dL_successorCount_14 : decode cL_successorCount 14 = .ok (.ireturn, 1) := by decide +kernel
theorem dL_successorCount_15 : decode cL_successorCount 15 = .ok (.iconst 0, 1) := by decide +kernel
theorem dL_successorCount_16 : decode cL_successorCount 16 = .ok (.ireturn, 1) := by decide +kernel
set_option maxRecDepth 20000 in
theorem ggL_dependsOn_X11_dependsOn : GoodIn wsL_dependsOn wsX11_dependsOn := goodIn_ca (goodIn_r _ [6, 7, 8, 9, 10, 5, 11, 12, 13, 14, 15, 16, 17, 18, 19, 20, 21, 22, 23, 24, 25, 26, 27, 28, 29, 30, 31, 32, 33, 34, 35, 36, 37, 38, 39, 40, 41, 42, 43, 44, 45, 46, 47, 48, 49, 50, 51, 52, 53, 54, 55, 56, 57, 58, 59, 60, 61] rfl (by decide +kernel)) (goodIn_sub (fun _ h => List.mem_cons_of_mem _ (List.mem_append_right _ h)) (by decide +kernel))
set_option maxRecDepth 20000 in
theorem gL_dependsOn_X11_dependsOn : GoodIn wsL_dependsOn (wsV RL 59 RX11 yX11_dependsOn wsX11_dependsOn) := goodIn_app (goodIn_of _ (by decide +kernel)) ggL_dependsOn_X11_dependsOn
theorem dL_dependsOn_0 : decode cL_dependsOn 0 = .ok (.aload_n 3, 1) := by decide +kernel
theorem dL_dependsOn_1 : decode cL_dependsOn 1 = .ok (.iconst 0, 1) := by decide +kernel
theorem dL_dependsOn_2 : decode cL_dependsOn 2 = .ok (.aload_n 0, 1) := by decide +kernel
theorem dL_dependsOn_3 : decode cL_dependsOn 3 = .ok (.iload_n 1, 1) := by decide +kernel
theorem dL_dependsOn_4 : decode cL_dependsOn 4 = .ok (.iload_n 2, 1) := by decide +kernel
theorem dL_dependsOn_5 : decode cL_dependsOn 5 = .ok (.invokevirtual 59, 3) := by decide +kernel
theorem dL_dependsOn_8 : decode cL_dependsOn 8 = .ok (.ifCond .eq 7, 3) := by decide +kernel
theorem dL_dependsOn_11 : decode cL_dependsOn 11 = .ok (.lconst 1, 1) := by decide +kernel
theorem dL_dependsOn_12 : decode cL_dependsOn 12 = .ok (.goto 4, 3) := by decide +kernel
theorem dL_dependsOn_15 : decode cL_dependsOn 15 = .ok (.lconst 0, 1) := by decide +kernel
theorem dL_dependsOn_16 : decode cL_dependsOn 16 = .ok (.lastore, 1) := by decide +kernel
theorem dL_dependsOn_17 : decode cL_dependsOn 17 = .ok (.goto 7, 3) := by decide +kernel
theorem dL_dependsOn_20 : decode cL_dependsOn 20 = .ok (.astore 4, 2) := by decide +kernel
theorem dL_dependsOn_22 : decode cL_dependsOn 22 = .ok (.iconst 1, 1) := by decide +kernel
theorem dL_dependsOn_23 : decode cL_dependsOn 23 = .ok (.ireturn, 1) := by decide +kernel
theorem dL_dependsOn_24 : decode cL_dependsOn 24 = .ok (.iconst 0, 1) := by decide +kernel
theorem dL_dependsOn_25 : decode cL_dependsOn 25 = .ok (.ireturn, 1) := by decide +kernel
set_option maxRecDepth 20000 in
theorem ggL_pathLength_X11_pathLength : GoodIn wsL_pathLength wsX11_pathLength := goodIn_ca (goodIn_r _ [6, 7, 8, 9, 10, 5, 11, 12, 13, 14, 15, 16, 17, 18, 19, 20, 21, 22, 23, 24, 25, 26, 27, 28, 29, 30, 31, 32, 33, 34, 35, 36, 37, 38, 39, 40, 41, 42, 43, 44, 45, 46, 47, 48, 49, 50, 51, 52, 53, 54, 55, 56, 57, 58, 59, 60, 61, 62, 63, 64, 65, 66, 67, 68, 69, 70, 71, 72, 73, 74, 75, 76, 77, 78, 79, 80, 81, 82] rfl (by decide +kernel)) (goodIn_sub (fun _ h => List.mem_cons_of_mem _ (List.mem_append_right _ h)) (by decide +kernel))
set_option maxRecDepth 20000 in
theorem gL_pathLength_X11_pathLength : GoodIn wsL_pathLength (wsV RL 63 RX11 yX11_pathLength wsX11_pathLength) := goodIn_app (goodIn_of _ (by decide +kernel)) ggL_pathLength_X11_pathLength
theorem dL_pathLength_0 : decode cL_pathLength 0 = .ok (.aload_n 2, 1) := by decide +kernel
theorem dL_pathLength_1 : decode cL_pathLength 1 = .ok (.iconst 0, 1) := by decide +kernel
theorem dL_pathLength_2 : decode cL_pathLength 2 = .ok (.aload_n 0, 1) := by decide +kernel
theorem dL_pathLength_3 : decode cL_pathLength 3 = .ok (.iload_n 1, 1) := by decide +kernel
theorem dL_pathLength_4 : decode cL_pathLength 4 = .ok (.invokevirtual 63, 3) := by decide +kernel
theorem dL_pathLength_7 : decode cL_pathLength 7 = .ok (.i2l, 1) := by decide +kernel
theorem dL_pathLength_8 : decode cL_pathLength 8 = .ok (.lastore, 1) := by decide +kernel
theorem dL_pathLength_9 : decode cL_pathLength 9 = .ok (.goto 6, 3) := by decide +kernel
theorem dL_pathLength_12 : decode cL_pathLength 12 = .ok (.astore_n 3, 1) := by decide +kernel
theorem dL_pathLength_13 : decode cL_pathLength 13 = .ok (.iconst 1, 1) := by decide +kernel
theorem dL_pathLength_14 : decode cL_pathLength 14 = .ok (.ireturn, 1) := by decide +kernel
theorem dL_pathLength_15 : decode cL_pathLength 15 = .ok (.iconst 0, 1) := by decide +kernel
theorem dL_pathLength_16 : decode cL_pathLength 16 = .ok (.ireturn, 1) := by decide +kernel
set_option maxRecDepth 20000 in
theorem ggL_nameLetter_X11_nameLetter : GoodIn wsL_nameLetter wsX11_nameLetter := goodIn_ca (goodIn_r _ [6, 7, 8, 9, 10, 11, 12, 5, 13, 14, 15, 16, 17, 18, 19, 20, 21, 22, 23, 24, 25, 26, 27, 28, 29, 30, 31, 32, 33, 34, 35, 36, 37, 38, 39, 40, 41, 42, 43, 44, 45, 46, 47, 48, 49, 50, 51, 52] rfl (by decide +kernel)) (goodIn_sub (fun _ h => List.mem_cons_of_mem _ (List.mem_append_right _ h)) (by decide +kernel))
set_option maxRecDepth 20000 in
theorem gL_nameLetter_X11_nameLetter : GoodIn wsL_nameLetter (wsV RL 66 RX11 yX11_nameLetter wsX11_nameLetter) := goodIn_app (goodIn_of _ (by decide +kernel)) ggL_nameLetter_X11_nameLetter
theorem dL_nameLetter_0 : decode cL_nameLetter 0 = .ok (.aload_n 3, 1) := by decide +kernel
theorem dL_nameLetter_1 : decode cL_nameLetter 1 = .ok (.iconst 0, 1) := by decide +kernel
theorem dL_nameLetter_2 : decode cL_nameLetter 2 = .ok (.aload_n 0, 1) := by decide +kernel
theorem dL_nameLetter_3 : decode cL_nameLetter 3 = .ok (.iload_n 1, 1) := by decide +kernel
theorem dL_nameLetter_4 : decode cL_nameLetter 4 = .ok (.iload_n 2, 1) := by decide +kernel
theorem dL_nameLetter_5 : decode cL_nameLetter 5 = .ok (.invokevirtual 66, 3) := by decide +kernel
theorem dL_nameLetter_8 : decode cL_nameLetter 8 = .ok (.i2l, 1) := by decide +kernel
theorem dL_nameLetter_9 : decode cL_nameLetter 9 = .ok (.lastore, 1) := by decide +kernel
theorem dL_nameLetter_10 : decode cL_nameLetter 10 = .ok (.goto 7, 3) := by decide +kernel
theorem dL_nameLetter_13 : decode cL_nameLetter 13 = .ok (.astore 4, 2) := by decide +kernel
theorem dL_nameLetter_15 : decode cL_nameLetter 15 = .ok (.iconst 1, 1) := by decide +kernel
theorem dL_nameLetter_16 : decode cL_nameLetter 16 = .ok (.ireturn, 1) := by decide +kernel
theorem dL_nameLetter_17 : decode cL_nameLetter 17 = .ok (.iconst 0, 1) := by decide +kernel
theorem dL_nameLetter_18 : decode cL_nameLetter 18 = .ok (.ireturn, 1) := by decide +kernel
set_option maxRecDepth 20000 in
theorem ggL_findStep_X11_findStep : GoodIn wsL_findStep wsX11_findStep := goodIn_ca (goodIn_r _ [6, 7, 8, 9, 10, 11, 12, 13, 14, 15, 16, 17, 18, 19, 20, 21, 22, 23, 24, 25, 26, 27, 28, 29, 30, 31, 32, 33, 34, 35, 36, 37, 38, 39, 40, 41, 42, 43, 44, 45, 46, 47, 48, 49, 50, 51, 52, 53, 54, 55, 56, 57, 58, 59, 60] rfl (by decide +kernel)) (goodIn_sub (fun _ h => List.mem_cons_of_mem _ (List.mem_append_right _ h)) (by decide +kernel))
set_option maxRecDepth 20000 in
theorem gL_findStep_X11_findStep : GoodIn wsL_findStep (wsV RL 69 RX11 yX11_findStep wsX11_findStep) := goodIn_app (goodIn_of _ (by decide +kernel)) ggL_findStep_X11_findStep
theorem dL_findStep_0 : decode cL_findStep 0 = .ok (.aload_n 1, 1) := by decide +kernel
theorem dL_findStep_1 : decode cL_findStep 1 = .ok (.iconst 0, 1) := by decide +kernel
theorem dL_findStep_2 : decode cL_findStep 2 = .ok (.aload_n 0, 1) := by decide +kernel
theorem dL_findStep_3 : decode cL_findStep 3 = .ok (.invokevirtual 69, 3) := by decide +kernel
theorem dL_findStep_6 : decode cL_findStep 6 = .ok (.i2l, 1) := by decide +kernel
theorem dL_findStep_7 : decode cL_findStep 7 = .ok (.lastore, 1) := by decide +kernel
theorem dL_findStep_8 : decode cL_findStep 8 = .ok (.goto 6, 3) := by decide +kernel
theorem dL_findStep_11 : decode cL_findStep 11 = .ok (.astore_n 2, 1) := by decide +kernel
theorem dL_findStep_12 : decode cL_findStep 12 = .ok (.iconst 1, 1) := by decide +kernel
theorem dL_findStep_13 : decode cL_findStep 13 = .ok (.ireturn, 1) := by decide +kernel
theorem dL_findStep_14 : decode cL_findStep 14 = .ok (.iconst 0, 1) := by decide +kernel
theorem dL_findStep_15 : decode cL_findStep 15 = .ok (.ireturn, 1) := by decide +kernel
set_option maxRecDepth 20000 in
theorem ggL_status_X11_status : GoodIn wsL_status wsX11_status := goodIn_ca (goodIn_r _ [6, 7, 8, 9, 10, 5, 11, 12, 13, 14, 15, 16, 17, 18, 19, 20, 21, 22, 23, 24, 25, 26, 27, 28, 29, 30, 31, 32, 33, 34, 35, 36, 37, 38, 39, 40, 41, 42, 43, 44, 45, 46, 47, 48, 49, 50, 51, 52, 53, 54, 55, 56, 57, 58, 59, 60, 61, 62, 63, 64, 65, 66, 67, 68, 69, 70, 71, 72, 73, 74, 75, 76, 77] rfl (by decide +kernel)) (goodIn_sub (fun _ h => List.mem_cons_of_mem _ (List.mem_append_right _ h)) (by decide +kernel))
set_option maxRecDepth 20000 in
theorem gL_status_X11_status : GoodIn wsL_status (wsV RL 74 RX11 yX11_status wsX11_status) := goodIn_app (goodIn_of _ (by decide +kernel)) ggL_status_X11_status
theorem dL_status_0 : decode cL_status 0 = .ok (.aload_n 2, 1) := by decide +kernel
theorem dL_status_1 : decode cL_status 1 = .ok (.iconst 0, 1) := by decide +kernel
theorem dL_status_2 : decode cL_status 2 = .ok (.aload_n 0, 1) := by decide +kernel
theorem dL_status_3 : decode cL_status 3 = .ok (.iload_n 1, 1) := by decide +kernel
theorem dL_status_4 : decode cL_status 4 = .ok (.invokevirtual 74, 3) := by decide +kernel
theorem dL_status_7 : decode cL_status 7 = .ok (.i2l, 1) := by decide +kernel
theorem dL_status_8 : decode cL_status 8 = .ok (.lastore, 1) := by decide +kernel
theorem dL_status_9 : decode cL_status 9 = .ok (.goto 6, 3) := by decide +kernel
theorem dL_status_12 : decode cL_status 12 = .ok (.astore_n 3, 1) := by decide +kernel
theorem dL_status_13 : decode cL_status 13 = .ok (.iconst 1, 1) := by decide +kernel
theorem dL_status_14 : decode cL_status 14 = .ok (.ireturn, 1) := by decide +kernel
theorem dL_status_15 : decode cL_status 15 = .ok (.iconst 0, 1) := by decide +kernel
theorem dL_status_16 : decode cL_status 16 = .ok (.ireturn, 1) := by decide +kernel
set_option maxRecDepth 20000 in
theorem ggL_remaining_X11_remaining : GoodIn wsL_remaining wsX11_remaining := goodIn_ca (goodIn_r _ [6, 7, 8, 9, 10, 5, 11, 12, 13, 14, 15, 16, 17, 18, 19, 20, 21, 22, 23, 24, 25, 26, 27, 28, 29, 30, 31, 32, 33, 34, 35, 36, 37, 38, 39, 40, 41, 42, 43, 44, 45, 46, 47, 48, 49, 50, 51, 52, 53, 54, 55, 56, 57, 58, 59, 60, 61, 62, 63, 64, 65, 66, 67] rfl (by decide +kernel)) (goodIn_sub (fun _ h => List.mem_cons_of_mem _ (List.mem_append_right _ h)) (by decide +kernel))
set_option maxRecDepth 20000 in
theorem gL_remaining_X11_remaining : GoodIn wsL_remaining (wsV RL 77 RX11 yX11_remaining wsX11_remaining) := goodIn_app (goodIn_of _ (by decide +kernel)) ggL_remaining_X11_remaining
theorem dL_remaining_0 : decode cL_remaining 0 = .ok (.aload_n 2, 1) := by decide +kernel
theorem dL_remaining_1 : decode cL_remaining 1 = .ok (.iconst 0, 1) := by decide +kernel
theorem dL_remaining_2 : decode cL_remaining 2 = .ok (.aload_n 0, 1) := by decide +kernel
theorem dL_remaining_3 : decode cL_remaining 3 = .ok (.iload_n 1, 1) := by decide +kernel
theorem dL_remaining_4 : decode cL_remaining 4 = .ok (.invokevirtual 77, 3) := by decide +kernel
theorem dL_remaining_7 : decode cL_remaining 7 = .ok (.i2l, 1) := by decide +kernel
theorem dL_remaining_8 : decode cL_remaining 8 = .ok (.lastore, 1) := by decide +kernel
theorem dL_remaining_9 : decode cL_remaining 9 = .ok (.goto 6, 3) := by decide +kernel
theorem dL_remaining_12 : decode cL_remaining 12 = .ok (.astore_n 3, 1) := by decide +kernel
theorem dL_remaining_13 : decode cL_remaining 13 = .ok (.iconst 1, 1) := by decide +kernel
theorem dL_remaining_14 : decode cL_remaining 14 = .ok (.ireturn, 1) := by decide +kernel
theorem dL_remaining_15 : decode cL_remaining 15 = .ok (.iconst 0, 1) := by decide +kernel
theorem dL_remaining_16 : decode cL_remaining 16 = .ok (.ireturn, 1) := by decide +kernel
set_option maxRecDepth 20000 in
theorem ggL_age_X11_age : GoodIn wsL_age wsX11_age := goodIn_ca (goodIn_r _ [6, 7, 8, 9, 10, 5, 11, 12, 13, 14, 15, 16, 17, 18, 19, 20, 21, 22, 23, 24, 25, 26, 27, 28, 29, 30, 31, 32, 33, 34, 35, 36, 37, 38, 39, 40, 41, 42, 43, 44, 45, 46, 47, 48, 49, 50, 51, 52, 53, 54, 55, 56, 57, 58, 59, 60, 61, 62, 63, 64, 65, 66, 67] rfl (by decide +kernel)) (goodIn_sub (fun _ h => List.mem_cons_of_mem _ (List.mem_append_right _ h)) (by decide +kernel))
set_option maxRecDepth 20000 in
theorem gL_age_X11_age : GoodIn wsL_age (wsV RL 80 RX11 yX11_age wsX11_age) := goodIn_app (goodIn_of _ (by decide +kernel)) ggL_age_X11_age
theorem dL_age_0 : decode cL_age 0 = .ok (.aload_n 2, 1) := by decide +kernel
theorem dL_age_1 : decode cL_age 1 = .ok (.iconst 0, 1) := by decide +kernel
theorem dL_age_2 : decode cL_age 2 = .ok (.aload_n 0, 1) := by decide +kernel
theorem dL_age_3 : decode cL_age 3 = .ok (.iload_n 1, 1) := by decide +kernel
theorem dL_age_4 : decode cL_age 4 = .ok (.invokevirtual 80, 3) := by decide +kernel
theorem dL_age_7 : decode cL_age 7 = .ok (.i2l, 1) := by decide +kernel
theorem dL_age_8 : decode cL_age 8 = .ok (.lastore, 1) := by decide +kernel
theorem dL_age_9 : decode cL_age 9 = .ok (.goto 6, 3) := by decide +kernel
theorem dL_age_12 : decode cL_age 12 = .ok (.astore_n 3, 1) := by decide +kernel
theorem dL_age_13 : decode cL_age 13 = .ok (.iconst 1, 1) := by decide +kernel
theorem dL_age_14 : decode cL_age 14 = .ok (.ireturn, 1) := by decide +kernel
theorem dL_age_15 : decode cL_age 15 = .ok (.iconst 0, 1) := by decide +kernel
theorem dL_age_16 : decode cL_age 16 = .ok (.ireturn, 1) := by decide +kernel
set_option maxRecDepth 20000 in
theorem ggL_startsOf_X11_startsOf : GoodIn wsL_startsOf wsX11_startsOf := goodIn_ca (goodIn_r _ [6, 7, 8, 9, 10, 5, 11, 12, 13, 14, 15, 16, 17, 18, 19, 20, 21, 22, 23, 24, 25, 26, 27, 28, 29, 30, 31, 32, 33, 34, 35, 36, 37, 38, 39, 40, 41, 42, 43, 44, 45, 46, 47, 48, 49, 50, 51, 52, 53, 54, 55, 56, 57, 58, 59, 60, 61, 62, 63, 64, 65, 66, 67] rfl (by decide +kernel)) (goodIn_sub (fun _ h => List.mem_cons_of_mem _ (List.mem_append_right _ h)) (by decide +kernel))
set_option maxRecDepth 20000 in
theorem gL_startsOf_X11_startsOf : GoodIn wsL_startsOf (wsV RL 83 RX11 yX11_startsOf wsX11_startsOf) := goodIn_app (goodIn_of _ (by decide +kernel)) ggL_startsOf_X11_startsOf
theorem dL_startsOf_0 : decode cL_startsOf 0 = .ok (.aload_n 2, 1) := by decide +kernel
theorem dL_startsOf_1 : decode cL_startsOf 1 = .ok (.iconst 0, 1) := by decide +kernel
theorem dL_startsOf_2 : decode cL_startsOf 2 = .ok (.aload_n 0, 1) := by decide +kernel
theorem dL_startsOf_3 : decode cL_startsOf 3 = .ok (.iload_n 1, 1) := by decide +kernel
theorem dL_startsOf_4 : decode cL_startsOf 4 = .ok (.invokevirtual 83, 3) := by decide +kernel
theorem dL_startsOf_7 : decode cL_startsOf 7 = .ok (.i2l, 1) := by decide +kernel
theorem dL_startsOf_8 : decode cL_startsOf 8 = .ok (.lastore, 1) := by decide +kernel
theorem dL_startsOf_9 : decode cL_startsOf 9 = .ok (.goto 6, 3) := by decide +kernel
theorem dL_startsOf_12 : decode cL_startsOf 12 = .ok (.astore_n 3, 1) := by decide +kernel
theorem dL_startsOf_13 : decode cL_startsOf 13 = .ok (.iconst 1, 1) := by decide +kernel
theorem dL_startsOf_14 : decode cL_startsOf 14 = .ok (.ireturn, 1) := by decide +kernel
theorem dL_startsOf_15 : decode cL_startsOf 15 = .ok (.iconst 0, 1) := by decide +kernel
theorem dL_startsOf_16 : decode cL_startsOf 16 = .ok (.ireturn, 1) := by decide +kernel
set_option maxRecDepth 20000 in
theorem ggL_isTakenUp_X11_isTakenUp : GoodIn wsL_isTakenUp wsX11_isTakenUp := goodIn_ca (goodIn_r _ [6, 7, 8, 9, 10, 5, 11, 12, 13, 14, 15, 16, 17, 18, 19, 20, 21, 22, 23, 24, 25, 26, 27, 28, 29, 30, 31, 32, 33, 34, 35, 36, 37, 38, 39, 40, 41, 42, 43, 44, 45, 46, 47, 48, 49, 50, 51, 52, 53, 54, 55, 56, 57, 58, 59, 60, 61, 62, 63, 64, 65, 66, 67, 68, 69, 70, 71, 72, 73, 74, 75, 76, 77] rfl (by decide +kernel)) (goodIn_sub (fun _ h => List.mem_cons_of_mem _ (List.mem_append_right _ h)) (by decide +kernel))
set_option maxRecDepth 20000 in
theorem gL_isTakenUp_X11_isTakenUp : GoodIn wsL_isTakenUp (wsV RL 86 RX11 yX11_isTakenUp wsX11_isTakenUp) := goodIn_app (goodIn_of _ (by decide +kernel)) ggL_isTakenUp_X11_isTakenUp
theorem dL_isTakenUp_0 : decode cL_isTakenUp 0 = .ok (.aload_n 2, 1) := by decide +kernel
theorem dL_isTakenUp_1 : decode cL_isTakenUp 1 = .ok (.iconst 0, 1) := by decide +kernel
theorem dL_isTakenUp_2 : decode cL_isTakenUp 2 = .ok (.aload_n 0, 1) := by decide +kernel
theorem dL_isTakenUp_3 : decode cL_isTakenUp 3 = .ok (.iload_n 1, 1) := by decide +kernel
theorem dL_isTakenUp_4 : decode cL_isTakenUp 4 = .ok (.invokevirtual 86, 3) := by decide +kernel
theorem dL_isTakenUp_7 : decode cL_isTakenUp 7 = .ok (.ifCond .eq 7, 3) := by decide +kernel
theorem dL_isTakenUp_10 : decode cL_isTakenUp 10 = .ok (.lconst 1, 1) := by decide +kernel
theorem dL_isTakenUp_11 : decode cL_isTakenUp 11 = .ok (.goto 4, 3) := by decide +kernel
theorem dL_isTakenUp_14 : decode cL_isTakenUp 14 = .ok (.lconst 0, 1) := by decide +kernel
theorem dL_isTakenUp_15 : decode cL_isTakenUp 15 = .ok (.lastore, 1) := by decide +kernel
theorem dL_isTakenUp_16 : decode cL_isTakenUp 16 = .ok (.goto 6, 3) := by decide +kernel
theorem dL_isTakenUp_19 : decode cL_isTakenUp 19 = .ok (.astore_n 3, 1) := by decide +kernel
theorem dL_isTakenUp_20 : decode cL_isTakenUp 20 = .ok (.iconst 1, 1) := by decide +kernel
theorem dL_isTakenUp_21 : decode cL_isTakenUp 21 = .ok (.ireturn, 1) := by decide +kernel
theorem dL_isTakenUp_22 : decode cL_isTakenUp 22 = .ok (.iconst 0, 1) := by decide +kernel
theorem dL_isTakenUp_23 : decode cL_isTakenUp 23 = .ok (.ireturn, 1) := by decide +kernel
set_option maxRecDepth 20000 in
theorem ggL_whyNotRunning_X11_whyNotRunning : GoodIn wsL_whyNotRunning wsX11_whyNotRunning := goodIn_ca (goodIn_r _ [6, 7, 8, 9, 10, 5, 11, 12, 13, 14, 15, 16, 17, 18, 19, 20, 21, 22, 23, 24, 25, 26, 27, 28, 29, 30, 31, 32, 33, 34, 35, 36, 37, 38, 39, 40, 41, 42, 43, 44, 45, 46, 47, 48, 49, 50, 51, 52, 53, 54, 55, 56, 57, 58, 59, 60, 61, 62, 63, 64, 65, 66, 67, 68, 69, 70, 71, 72, 73, 74, 75, 76, 77, 78, 79, 80, 81, 82, 83, 84, 85, 86, 87, 88, 89, 90, 91, 92, 93, 94, 95] rfl (by decide +kernel)) (goodIn_sub (fun _ h => List.mem_cons_of_mem _ (List.mem_append_right _ h)) (by decide +kernel))
set_option maxRecDepth 20000 in
theorem gL_whyNotRunning_X11_whyNotRunning : GoodIn wsL_whyNotRunning (wsV RL 89 RX11 yX11_whyNotRunning wsX11_whyNotRunning) := goodIn_app (goodIn_of _ (by decide +kernel)) ggL_whyNotRunning_X11_whyNotRunning
theorem dL_whyNotRunning_0 : decode cL_whyNotRunning 0 = .ok (.aload_n 2, 1) := by decide +kernel
theorem dL_whyNotRunning_1 : decode cL_whyNotRunning 1 = .ok (.iconst 0, 1) := by decide +kernel
theorem dL_whyNotRunning_2 : decode cL_whyNotRunning 2 = .ok (.aload_n 0, 1) := by decide +kernel
theorem dL_whyNotRunning_3 : decode cL_whyNotRunning 3 = .ok (.iload_n 1, 1) := by decide +kernel
theorem dL_whyNotRunning_4 : decode cL_whyNotRunning 4 = .ok (.invokevirtual 89, 3) := by decide +kernel
theorem dL_whyNotRunning_7 : decode cL_whyNotRunning 7 = .ok (.i2l, 1) := by decide +kernel
theorem dL_whyNotRunning_8 : decode cL_whyNotRunning 8 = .ok (.lastore, 1) := by decide +kernel
theorem dL_whyNotRunning_9 : decode cL_whyNotRunning 9 = .ok (.goto 6, 3) := by decide +kernel
theorem dL_whyNotRunning_12 : decode cL_whyNotRunning 12 = .ok (.astore_n 3, 1) := by decide +kernel
theorem dL_whyNotRunning_13 : decode cL_whyNotRunning 13 = .ok (.iconst 1, 1) := by decide +kernel
theorem dL_whyNotRunning_14 : decode cL_whyNotRunning 14 = .ok (.ireturn, 1) := by decide +kernel
theorem dL_whyNotRunning_15 : decode cL_whyNotRunning 15 = .ok (.iconst 0, 1) := by decide +kernel
theorem dL_whyNotRunning_16 : decode cL_whyNotRunning 16 = .ok (.ireturn, 1) := by decide +kernel
set_option maxRecDepth 20000 in
theorem ggL_blockingStep_X11_blockingStep : GoodIn wsL_blockingStep wsX11_blockingStep := goodIn_ca (goodIn_r _ [6, 7, 8, 9, 10, 5, 11, 12, 13, 14, 15, 16, 17, 18, 19, 20, 21, 22, 23, 24, 25, 26, 27, 28, 29, 30, 31, 32, 33, 34, 35, 36, 37, 38, 39, 40, 41, 42, 43, 44, 45, 46, 47, 48, 49, 50, 51, 52, 53, 54, 55, 56, 57, 58, 59, 60, 61, 62, 63, 64, 65, 66, 67, 68, 69, 70, 71, 72, 73, 74, 75, 76, 77, 78, 79, 80, 81, 82, 83, 84, 85, 86, 87, 88, 89, 90, 91, 92, 93, 94, 95, 96, 97, 98, 99, 100, 101, 102, 103, 104, 105, 106] rfl (by decide +kernel)) (goodIn_sub (fun _ h => List.mem_cons_of_mem _ (List.mem_append_right _ h)) (by decide +kernel))
set_option maxRecDepth 20000 in
theorem gL_blockingStep_X11_blockingStep : GoodIn wsL_blockingStep (wsV RL 92 RX11 yX11_blockingStep wsX11_blockingStep) := goodIn_app (goodIn_of _ (by decide +kernel)) ggL_blockingStep_X11_blockingStep
theorem dL_blockingStep_0 : decode cL_blockingStep 0 = .ok (.aload_n 2, 1) := by decide +kernel
theorem dL_blockingStep_1 : decode cL_blockingStep 1 = .ok (.iconst 0, 1) := by decide +kernel
theorem dL_blockingStep_2 : decode cL_blockingStep 2 = .ok (.aload_n 0, 1) := by decide +kernel
theorem dL_blockingStep_3 : decode cL_blockingStep 3 = .ok (.iload_n 1, 1) := by decide +kernel
theorem dL_blockingStep_4 : decode cL_blockingStep 4 = .ok (.invokevirtual 92, 3) := by decide +kernel
theorem dL_blockingStep_7 : decode cL_blockingStep 7 = .ok (.i2l, 1) := by decide +kernel
theorem dL_blockingStep_8 : decode cL_blockingStep 8 = .ok (.lastore, 1) := by decide +kernel
theorem dL_blockingStep_9 : decode cL_blockingStep 9 = .ok (.goto 6, 3) := by decide +kernel
theorem dL_blockingStep_12 : decode cL_blockingStep 12 = .ok (.astore_n 3, 1) := by decide +kernel
theorem dL_blockingStep_13 : decode cL_blockingStep 13 = .ok (.iconst 1, 1) := by decide +kernel
theorem dL_blockingStep_14 : decode cL_blockingStep 14 = .ok (.ireturn, 1) := by decide +kernel
theorem dL_blockingStep_15 : decode cL_blockingStep 15 = .ok (.iconst 0, 1) := by decide +kernel
theorem dL_blockingStep_16 : decode cL_blockingStep 16 = .ok (.ireturn, 1) := by decide +kernel
set_option maxRecDepth 20000 in
theorem ggL_rootBlocker_X11_rootBlocker : GoodIn wsL_rootBlocker wsX11_rootBlocker := goodIn_ca (goodIn_r _ [6, 7, 8, 9, 10, 5, 11, 12, 13, 14, 15, 16, 17, 18, 19, 20, 21, 22, 23, 24, 25, 26, 27, 28, 29, 30, 31, 32, 33, 34, 35, 36, 37, 38, 39, 40, 41, 42, 43, 44, 45, 46, 47, 48, 49, 50, 51, 52, 53, 54, 55, 56, 57, 58, 59, 60, 61, 62, 63, 64, 65, 66, 67, 68, 69, 70, 71, 72, 73, 74, 75, 76, 77, 78, 79, 80, 81, 82, 83, 84, 85, 86, 87, 88, 89, 90, 91, 92, 93, 94, 95, 96, 97, 98, 99, 100, 101, 102, 103] rfl (by decide +kernel)) (goodIn_sub (fun _ h => List.mem_cons_of_mem _ (List.mem_append_right _ h)) (by decide +kernel))
set_option maxRecDepth 20000 in
theorem gL_rootBlocker_X11_rootBlocker : GoodIn wsL_rootBlocker (wsV RL 95 RX11 yX11_rootBlocker wsX11_rootBlocker) := goodIn_app (goodIn_of _ (by decide +kernel)) ggL_rootBlocker_X11_rootBlocker
theorem dL_rootBlocker_0 : decode cL_rootBlocker 0 = .ok (.aload_n 2, 1) := by decide +kernel
theorem dL_rootBlocker_1 : decode cL_rootBlocker 1 = .ok (.iconst 0, 1) := by decide +kernel
theorem dL_rootBlocker_2 : decode cL_rootBlocker 2 = .ok (.aload_n 0, 1) := by decide +kernel
theorem dL_rootBlocker_3 : decode cL_rootBlocker 3 = .ok (.iload_n 1, 1) := by decide +kernel
theorem dL_rootBlocker_4 : decode cL_rootBlocker 4 = .ok (.invokevirtual 95, 3) := by decide +kernel
theorem dL_rootBlocker_7 : decode cL_rootBlocker 7 = .ok (.i2l, 1) := by decide +kernel
theorem dL_rootBlocker_8 : decode cL_rootBlocker 8 = .ok (.lastore, 1) := by decide +kernel
theorem dL_rootBlocker_9 : decode cL_rootBlocker 9 = .ok (.goto 6, 3) := by decide +kernel
theorem dL_rootBlocker_12 : decode cL_rootBlocker 12 = .ok (.astore_n 3, 1) := by decide +kernel
theorem dL_rootBlocker_13 : decode cL_rootBlocker 13 = .ok (.iconst 1, 1) := by decide +kernel
theorem dL_rootBlocker_14 : decode cL_rootBlocker 14 = .ok (.ireturn, 1) := by decide +kernel
theorem dL_rootBlocker_15 : decode cL_rootBlocker 15 = .ok (.iconst 0, 1) := by decide +kernel
theorem dL_rootBlocker_16 : decode cL_rootBlocker 16 = .ok (.ireturn, 1) := by decide +kernel
set_option maxRecDepth 20000 in
theorem ggL_slack_X11_slack : GoodIn wsL_slack wsX11_slack := goodIn_ca (goodIn_r _ [6, 7, 8, 9, 10, 5, 11, 12, 13, 14, 15, 16, 17, 18, 19, 20, 21, 22, 23, 24, 25, 26, 27, 28, 29, 30, 31, 32, 33, 34, 35, 36, 37, 38, 39, 40, 41, 42, 43, 44, 45, 46, 47, 48, 49, 50, 51, 52, 53, 54, 55, 56, 57, 58, 59, 60, 61, 62, 63, 64, 65, 66, 67, 68, 69, 70, 71, 72, 73, 74, 75, 76, 77, 78, 79, 80, 81, 82, 83, 84, 85, 86, 87, 88, 89, 90, 91] rfl (by decide +kernel)) (goodIn_sub (fun _ h => List.mem_cons_of_mem _ (List.mem_append_right _ h)) (by decide +kernel))
set_option maxRecDepth 20000 in
theorem gL_slack_X11_slack : GoodIn wsL_slack (wsV RL 98 RX11 yX11_slack wsX11_slack) := goodIn_app (goodIn_of _ (by decide +kernel)) ggL_slack_X11_slack
theorem dL_slack_0 : decode cL_slack 0 = .ok (.aload_n 2, 1) := by decide +kernel
theorem dL_slack_1 : decode cL_slack 1 = .ok (.iconst 0, 1) := by decide +kernel
theorem dL_slack_2 : decode cL_slack 2 = .ok (.aload_n 0, 1) := by decide +kernel
theorem dL_slack_3 : decode cL_slack 3 = .ok (.iload_n 1, 1) := by decide +kernel
theorem dL_slack_4 : decode cL_slack 4 = .ok (.invokevirtual 98, 3) := by decide +kernel
theorem dL_slack_7 : decode cL_slack 7 = .ok (.i2l, 1) := by decide +kernel
theorem dL_slack_8 : decode cL_slack 8 = .ok (.lastore, 1) := by decide +kernel
theorem dL_slack_9 : decode cL_slack 9 = .ok (.goto 6, 3) := by decide +kernel
theorem dL_slack_12 : decode cL_slack 12 = .ok (.astore_n 3, 1) := by decide +kernel
theorem dL_slack_13 : decode cL_slack 13 = .ok (.iconst 1, 1) := by decide +kernel
theorem dL_slack_14 : decode cL_slack 14 = .ok (.ireturn, 1) := by decide +kernel
theorem dL_slack_15 : decode cL_slack 15 = .ok (.iconst 0, 1) := by decide +kernel
theorem dL_slack_16 : decode cL_slack 16 = .ok (.ireturn, 1) := by decide +kernel
set_option maxRecDepth 20000 in
theorem ggL_statusAfter_X11_statusAfter : GoodIn wsL_statusAfter wsX11_statusAfter := goodIn_ca (goodIn_ca (goodIn_r _ [6, 7, 8, 9, 10, 11, 12, 13, 5, 14, 15, 16, 17, 18, 19, 20, 21, 22, 23, 24, 25, 26, 27, 28, 29, 30, 31, 32, 33, 34, 35, 36, 37, 38, 39, 40, 41, 42, 43, 44, 45, 46, 47, 48, 49, 50, 51, 52, 53, 54, 55, 56, 57, 58, 59, 60, 61, 62, 63, 64, 65, 66, 67, 68, 69, 70, 71, 72, 73, 74, 75, 76, 77, 78, 79, 80, 81, 82, 83, 84, 85, 86, 87, 88, 89, 90, 91, 92, 93, 94, 95, 96, 97, 98, 99, 100, 101, 102, 103, 104, 105, 106, 107, 108, 109, 110, 111, 112, 113, 114, 115, 116, 117, 118, 119, 120, 121, 122, 123, 124, 125, 126, 127, 128, 129, 130, 131, 132, 133, 134, 135, 136, 137, 138, 139, 140, 141, 142, 143, 144, 145, 146, 147, 148, 149, 150, 151, 152, 153, 154, 155, 156, 157, 158, 159, 160, 161, 162, 163, 164, 165, 166, 167, 168, 169, 170, 171, 172, 173, 174, 175, 176, 177, 178, 179, 180, 181, 182] rfl (by decide +kernel)) (goodIn_sub (fun _ h => List.mem_cons_of_mem _ (List.mem_append_left _ (List.mem_append_right _ h))) (by decide +kernel))) (goodIn_sub (fun _ h => List.mem_cons_of_mem _ (List.mem_append_right _ h)) (by decide +kernel))
set_option maxRecDepth 20000 in
theorem gL_statusAfter_X11_statusAfter : GoodIn wsL_statusAfter (wsV RL 101 RX11 yX11_statusAfter wsX11_statusAfter) := goodIn_app (goodIn_of _ (by decide +kernel)) ggL_statusAfter_X11_statusAfter
theorem dL_statusAfter_0 : decode cL_statusAfter 0 = .ok (.aload_n 3, 1) := by decide +kernel
theorem dL_statusAfter_1 : decode cL_statusAfter 1 = .ok (.iconst 0, 1) := by decide +kernel
theorem dL_statusAfter_2 : decode cL_statusAfter 2 = .ok (.aload_n 0, 1) := by decide +kernel
theorem dL_statusAfter_3 : decode cL_statusAfter 3 = .ok (.iload_n 1, 1) := by decide +kernel
theorem dL_statusAfter_4 : decode cL_statusAfter 4 = .ok (.iload_n 2, 1) := by decide +kernel
theorem dL_statusAfter_5 : decode cL_statusAfter 5 = .ok (.invokevirtual 101, 3) := by decide +kernel
theorem dL_statusAfter_8 : decode cL_statusAfter 8 = .ok (.i2l, 1) := by decide +kernel
theorem dL_statusAfter_9 : decode cL_statusAfter 9 = .ok (.lastore, 1) := by decide +kernel
theorem dL_statusAfter_10 : decode cL_statusAfter 10 = .ok (.goto 11, 3) := by decide +kernel
theorem dL_statusAfter_13 : decode cL_statusAfter 13 = .ok (.astore 4, 2) := by decide +kernel
theorem dL_statusAfter_15 : decode cL_statusAfter 15 = .ok (.iconst 1, 1) := by decide +kernel
theorem dL_statusAfter_16 : decode cL_statusAfter 16 = .ok (.ireturn, 1) := by decide +kernel
theorem dL_statusAfter_17 : decode cL_statusAfter 17 = .ok (.astore 4, 2) := by decide +kernel
theorem dL_statusAfter_19 : decode cL_statusAfter 19 = .ok (.iconst 2, 1) := by decide +kernel
theorem dL_statusAfter_20 : decode cL_statusAfter 20 = .ok (.ireturn, 1) := by decide +kernel
theorem dL_statusAfter_21 : decode cL_statusAfter 21 = .ok (.iconst 0, 1) := by decide +kernel
theorem dL_statusAfter_22 : decode cL_statusAfter 22 = .ok (.ireturn, 1) := by decide +kernel
set_option maxRecDepth 20000 in
theorem ggL_minutesToBurn_X11_minutesToBurn : GoodIn wsL_minutesToBurn wsX11_minutesToBurn := goodIn_ca (goodIn_r _ [6, 7, 8, 9, 10, 11, 5, 12, 13, 14, 15, 16, 17, 18, 19, 20, 21, 22, 23, 24, 25, 26, 27, 28, 29, 30, 31, 32, 33, 34, 35, 36, 37, 38, 39, 40, 41, 42, 43, 44, 45, 46, 47, 48, 49, 50, 51, 52, 53, 54, 55, 56, 57, 58, 59, 60, 61, 62, 63, 64, 65, 66, 67, 68, 69, 70, 71, 72, 73, 74, 75, 76, 77, 78, 79, 80, 81, 82, 83, 84, 85, 86, 87, 88, 89, 90, 91, 92, 93, 94, 95, 96, 97, 98, 99, 100, 101, 102, 103, 104, 105, 106, 107, 108, 109, 110, 111, 112, 113, 114, 115, 116, 117, 118, 119, 120, 121, 122, 123, 124, 125, 126, 127, 128, 129, 130, 131, 132, 133, 134, 135, 136, 137, 138, 139, 140, 141, 142, 143, 144, 145, 146, 147, 148, 149, 150, 151, 152, 153, 154, 155, 156, 157, 158, 159, 160, 161, 162, 163, 164, 165, 166, 167, 168, 169, 170, 171, 172, 173, 174, 175, 176] rfl (by decide +kernel)) (goodIn_sub (fun _ h => List.mem_cons_of_mem _ (List.mem_append_right _ h)) (by decide +kernel))
set_option maxRecDepth 20000 in
theorem gL_minutesToBurn_X11_minutesToBurn : GoodIn wsL_minutesToBurn (wsV RL 104 RX11 yX11_minutesToBurn wsX11_minutesToBurn) := goodIn_app (goodIn_of _ (by decide +kernel)) ggL_minutesToBurn_X11_minutesToBurn
theorem dL_minutesToBurn_0 : decode cL_minutesToBurn 0 = .ok (.aload_n 2, 1) := by decide +kernel
theorem dL_minutesToBurn_1 : decode cL_minutesToBurn 1 = .ok (.iconst 0, 1) := by decide +kernel
theorem dL_minutesToBurn_2 : decode cL_minutesToBurn 2 = .ok (.aload_n 0, 1) := by decide +kernel
theorem dL_minutesToBurn_3 : decode cL_minutesToBurn 3 = .ok (.iload_n 1, 1) := by decide +kernel
theorem dL_minutesToBurn_4 : decode cL_minutesToBurn 4 = .ok (.invokevirtual 104, 3) := by decide +kernel
theorem dL_minutesToBurn_7 : decode cL_minutesToBurn 7 = .ok (.i2l, 1) := by decide +kernel
theorem dL_minutesToBurn_8 : decode cL_minutesToBurn 8 = .ok (.lastore, 1) := by decide +kernel
theorem dL_minutesToBurn_9 : decode cL_minutesToBurn 9 = .ok (.goto 6, 3) := by decide +kernel
theorem dL_minutesToBurn_12 : decode cL_minutesToBurn 12 = .ok (.astore_n 3, 1) := by decide +kernel
theorem dL_minutesToBurn_13 : decode cL_minutesToBurn 13 = .ok (.iconst 1, 1) := by decide +kernel
theorem dL_minutesToBurn_14 : decode cL_minutesToBurn 14 = .ok (.ireturn, 1) := by decide +kernel
theorem dL_minutesToBurn_15 : decode cL_minutesToBurn 15 = .ok (.iconst 0, 1) := by decide +kernel
theorem dL_minutesToBurn_16 : decode cL_minutesToBurn 16 = .ok (.ireturn, 1) := by decide +kernel
set_option maxRecDepth 20000 in
theorem ggL_minutesWithCooks_X11_minutesWithCooks : GoodIn wsL_minutesWithCooks wsX11_minutesWithCooks := goodIn_ca (goodIn_r _ [6, 7, 8, 9, 5, 10, 11, 12, 13, 14, 15, 16, 17, 18, 19, 20, 21, 22, 23, 24, 25, 26, 27, 28, 29, 30, 31, 32, 33, 34, 35, 36, 37, 38, 39, 40, 41, 42, 43, 44, 45, 46, 47, 48, 49, 50, 51, 52, 53, 54, 55, 56, 57, 58, 59, 60, 61, 62, 63, 64, 65, 66, 67, 68, 69, 70, 71, 72, 73, 74, 75, 76, 77, 78, 79, 80, 81, 82, 83, 84, 85, 86, 87, 88, 89, 90, 91, 92, 93, 94, 95, 96, 97, 98, 99, 100, 101, 102, 103, 104, 105, 106, 107, 108, 109, 110, 111, 112, 113, 114, 115, 116, 117, 118, 119, 120, 121, 122, 123, 124, 125, 126, 127, 128, 129, 130, 131, 132, 133, 134, 135, 136, 137, 138, 139, 140, 141, 142, 143, 144, 145, 146, 147, 148, 149, 150, 151, 152, 153, 154, 155, 156, 157, 158, 159, 160, 161, 162, 163, 164, 165, 166, 167, 168, 169, 170, 171, 172, 173, 174, 175, 176, 177, 178, 179, 180, 181, 182, 183, 184] rfl (by decide +kernel)) (goodIn_sub (fun _ h => List.mem_cons_of_mem _ (List.mem_append_right _ h)) (by decide +kernel))
set_option maxRecDepth 20000 in
theorem gL_minutesWithCooks_X11_minutesWithCooks : GoodIn wsL_minutesWithCooks (wsV RL 107 RX11 yX11_minutesWithCooks wsX11_minutesWithCooks) := goodIn_app (goodIn_of _ (by decide +kernel)) ggL_minutesWithCooks_X11_minutesWithCooks
theorem dL_minutesWithCooks_0 : decode cL_minutesWithCooks 0 = .ok (.aload_n 2, 1) := by decide +kernel
theorem dL_minutesWithCooks_1 : decode cL_minutesWithCooks 1 = .ok (.iconst 0, 1) := by decide +kernel
theorem dL_minutesWithCooks_2 : decode cL_minutesWithCooks 2 = .ok (.aload_n 0, 1) := by decide +kernel
theorem dL_minutesWithCooks_3 : decode cL_minutesWithCooks 3 = .ok (.iload_n 1, 1) := by decide +kernel
theorem dL_minutesWithCooks_4 : decode cL_minutesWithCooks 4 = .ok (.invokevirtual 107, 3) := by decide +kernel
theorem dL_minutesWithCooks_7 : decode cL_minutesWithCooks 7 = .ok (.i2l, 1) := by decide +kernel
theorem dL_minutesWithCooks_8 : decode cL_minutesWithCooks 8 = .ok (.lastore, 1) := by decide +kernel
theorem dL_minutesWithCooks_9 : decode cL_minutesWithCooks 9 = .ok (.goto 6, 3) := by decide +kernel
theorem dL_minutesWithCooks_12 : decode cL_minutesWithCooks 12 = .ok (.astore_n 3, 1) := by decide +kernel
theorem dL_minutesWithCooks_13 : decode cL_minutesWithCooks 13 = .ok (.iconst 1, 1) := by decide +kernel
theorem dL_minutesWithCooks_14 : decode cL_minutesWithCooks 14 = .ok (.ireturn, 1) := by decide +kernel
theorem dL_minutesWithCooks_15 : decode cL_minutesWithCooks 15 = .ok (.iconst 0, 1) := by decide +kernel
theorem dL_minutesWithCooks_16 : decode cL_minutesWithCooks 16 = .ok (.ireturn, 1) := by decide +kernel
set_option maxRecDepth 20000 in
theorem ggL_bottleneck_X11_bottleneck : GoodIn wsL_bottleneck wsX11_bottleneck := goodIn_ca (goodIn_r _ [6, 7, 8, 9, 10, 11, 5, 12, 13, 14, 15, 16, 17, 18, 19, 20, 21, 22, 23, 24, 25, 26, 27, 28, 29, 30, 31, 32, 33, 34, 35, 36, 37, 38, 39, 40, 41, 42, 43, 44, 45, 46, 47, 48, 49, 50, 51, 52, 53, 54, 55, 56, 57, 58, 59, 60, 61, 62, 63, 64, 65, 66, 67, 68, 69, 70, 71, 72, 73, 74, 75, 76, 77, 78, 79, 80, 81, 82, 83, 84, 85, 86, 87, 88, 89, 90, 91, 92, 93, 94, 95, 96, 97, 98, 99, 100, 101, 102, 103, 104, 105, 106, 107, 108, 109, 110, 111, 112, 113, 114, 115, 116, 117, 118, 119, 120, 121, 122, 123, 124, 125, 126, 127, 128, 129, 130, 131, 132, 133, 134, 135, 136, 137, 138, 139, 140, 141, 142, 143, 144, 145, 146, 147, 148, 149, 150, 151, 152, 153, 154, 155, 156, 157, 158, 159, 160, 161, 162, 163, 164, 165, 166, 167, 168, 169, 170, 171, 172, 173, 174] rfl (by decide +kernel)) (goodIn_sub (fun _ h => List.mem_cons_of_mem _ (List.mem_append_right _ h)) (by decide +kernel))
set_option maxRecDepth 20000 in
theorem gL_bottleneck_X11_bottleneck : GoodIn wsL_bottleneck (wsV RL 110 RX11 yX11_bottleneck wsX11_bottleneck) := goodIn_app (goodIn_of _ (by decide +kernel)) ggL_bottleneck_X11_bottleneck
theorem dL_bottleneck_0 : decode cL_bottleneck 0 = .ok (.aload_n 1, 1) := by decide +kernel
theorem dL_bottleneck_1 : decode cL_bottleneck 1 = .ok (.iconst 0, 1) := by decide +kernel
theorem dL_bottleneck_2 : decode cL_bottleneck 2 = .ok (.aload_n 0, 1) := by decide +kernel
theorem dL_bottleneck_3 : decode cL_bottleneck 3 = .ok (.invokevirtual 110, 3) := by decide +kernel
theorem dL_bottleneck_6 : decode cL_bottleneck 6 = .ok (.i2l, 1) := by decide +kernel
theorem dL_bottleneck_7 : decode cL_bottleneck 7 = .ok (.lastore, 1) := by decide +kernel
theorem dL_bottleneck_8 : decode cL_bottleneck 8 = .ok (.goto 6, 3) := by decide +kernel
theorem dL_bottleneck_11 : decode cL_bottleneck 11 = .ok (.astore_n 2, 1) := by decide +kernel
theorem dL_bottleneck_12 : decode cL_bottleneck 12 = .ok (.iconst 1, 1) := by decide +kernel
theorem dL_bottleneck_13 : decode cL_bottleneck 13 = .ok (.ireturn, 1) := by decide +kernel
theorem dL_bottleneck_14 : decode cL_bottleneck 14 = .ok (.iconst 0, 1) := by decide +kernel
theorem dL_bottleneck_15 : decode cL_bottleneck 15 = .ok (.ireturn, 1) := by decide +kernel
set_option maxRecDepth 20000 in
theorem ggL_pass_X11_pass : GoodIn wsL_pass wsX11_pass := goodIn_ca (goodIn_ca (goodIn_r _ [6, 7, 8, 9, 10, 11, 12, 13, 14, 15, 5, 16, 17, 18, 19, 20, 21, 22, 23, 24, 25, 26, 27, 28, 29, 30, 31, 32, 33, 34, 35, 36, 37, 38, 39, 40, 41, 42, 43, 44, 45, 46, 47, 48, 49, 50, 51, 52, 53, 54, 55, 56, 57, 58, 59, 60, 61, 62, 63, 64, 65, 66, 67, 68, 69, 70, 71, 72, 73, 74, 75, 76, 77, 78, 79, 80, 81, 82, 83, 84, 85, 86, 87, 88, 89, 90, 91, 92, 93, 94, 95, 96, 97, 98, 99, 100, 101, 102, 103, 104, 105, 106, 107, 108, 109, 110, 111, 112, 113, 114, 115, 116, 117, 118, 119, 120, 121, 122, 123, 124, 125, 126, 127, 128, 129, 130, 131, 132, 133, 134, 135, 136, 137, 138, 139, 140, 141, 142, 143, 144, 145, 146, 147, 148, 149, 150, 151, 152, 153, 154, 155, 156, 157, 158, 159, 160, 161, 162, 163, 164, 165, 166, 167, 168, 169, 170, 171, 172, 173, 174, 175, 176, 177, 178, 179, 180, 181, 182, 183, 184, 185, 186, 187, 188, 189, 190, 191, 192, 193] rfl (by decide +kernel)) (goodIn_sub (fun _ h => List.mem_cons_of_mem _ (List.mem_append_left _ (List.mem_append_right _ h))) (by decide +kernel))) (goodIn_sub (fun _ h => List.mem_cons_of_mem _ (List.mem_append_right _ h)) (by decide +kernel))
set_option maxRecDepth 20000 in
theorem gL_pass_X11_pass : GoodIn wsL_pass (wsV RL 113 RX11 yX11_pass wsX11_pass) := goodIn_app (goodIn_of _ (by decide +kernel)) ggL_pass_X11_pass
theorem dL_pass_0 : decode cL_pass 0 = .ok (.aload_n 2, 1) := by decide +kernel
theorem dL_pass_1 : decode cL_pass 1 = .ok (.iconst 0, 1) := by decide +kernel
theorem dL_pass_2 : decode cL_pass 2 = .ok (.aload_n 0, 1) := by decide +kernel
theorem dL_pass_3 : decode cL_pass 3 = .ok (.iload_n 1, 1) := by decide +kernel
theorem dL_pass_4 : decode cL_pass 4 = .ok (.invokevirtual 113, 3) := by decide +kernel
theorem dL_pass_7 : decode cL_pass 7 = .ok (.i2l, 1) := by decide +kernel
theorem dL_pass_8 : decode cL_pass 8 = .ok (.lastore, 1) := by decide +kernel
theorem dL_pass_9 : decode cL_pass 9 = .ok (.goto 9, 3) := by decide +kernel
theorem dL_pass_12 : decode cL_pass 12 = .ok (.astore_n 3, 1) := by decide +kernel
theorem dL_pass_13 : decode cL_pass 13 = .ok (.iconst 1, 1) := by decide +kernel
theorem dL_pass_14 : decode cL_pass 14 = .ok (.ireturn, 1) := by decide +kernel
theorem dL_pass_15 : decode cL_pass 15 = .ok (.astore_n 3, 1) := by decide +kernel
theorem dL_pass_16 : decode cL_pass 16 = .ok (.iconst 2, 1) := by decide +kernel
theorem dL_pass_17 : decode cL_pass 17 = .ok (.ireturn, 1) := by decide +kernel
theorem dL_pass_18 : decode cL_pass 18 = .ok (.iconst 0, 1) := by decide +kernel
theorem dL_pass_19 : decode cL_pass 19 = .ok (.ireturn, 1) := by decide +kernel
set_option maxRecDepth 20000 in
theorem ggL_addSalt_X11_addSalt : GoodIn wsL_addSalt wsX11_addSalt := goodIn_ca (goodIn_ca (goodIn_r _ [6, 7, 8, 9, 10, 11, 12, 13, 14, 15, 5, 16, 17, 18, 19, 20, 21, 22, 23, 24, 25, 26, 27, 28, 29, 30, 31, 32, 33, 34, 35, 36, 37, 38, 39, 40, 41, 42, 43, 44, 45, 46, 47, 48, 49, 50, 51, 52, 53, 54, 55, 56, 57, 58, 59, 60, 61, 62, 63, 64, 65, 66, 67, 68, 69, 70, 71, 72, 73, 74, 75, 76, 77, 78, 79, 80, 81, 82, 83, 84, 85, 86, 87, 88, 89, 90, 91, 92, 93, 94, 95, 96, 97, 98, 99, 100, 101, 102, 103, 104, 105, 106, 107, 108, 109, 110, 111, 112, 113, 114, 115, 116, 117, 118] rfl (by decide +kernel)) (goodIn_sub (fun _ h => List.mem_cons_of_mem _ (List.mem_append_left _ (List.mem_append_right _ h))) (by decide +kernel))) (goodIn_sub (fun _ h => List.mem_cons_of_mem _ (List.mem_append_right _ h)) (by decide +kernel))
set_option maxRecDepth 20000 in
theorem gL_addSalt_X11_addSalt : GoodIn wsL_addSalt (wsV RL 116 RX11 yX11_addSalt wsX11_addSalt) := goodIn_app (goodIn_of _ (by decide +kernel)) ggL_addSalt_X11_addSalt
theorem dL_addSalt_0 : decode cL_addSalt 0 = .ok (.aload_n 2, 1) := by decide +kernel
theorem dL_addSalt_1 : decode cL_addSalt 1 = .ok (.iconst 0, 1) := by decide +kernel
theorem dL_addSalt_2 : decode cL_addSalt 2 = .ok (.aload_n 0, 1) := by decide +kernel
theorem dL_addSalt_3 : decode cL_addSalt 3 = .ok (.iload_n 1, 1) := by decide +kernel
theorem dL_addSalt_4 : decode cL_addSalt 4 = .ok (.invokevirtual 116, 3) := by decide +kernel
theorem dL_addSalt_7 : decode cL_addSalt 7 = .ok (.i2l, 1) := by decide +kernel
theorem dL_addSalt_8 : decode cL_addSalt 8 = .ok (.lastore, 1) := by decide +kernel
theorem dL_addSalt_9 : decode cL_addSalt 9 = .ok (.goto 9, 3) := by decide +kernel
theorem dL_addSalt_12 : decode cL_addSalt 12 = .ok (.astore_n 3, 1) := by decide +kernel
theorem dL_addSalt_13 : decode cL_addSalt 13 = .ok (.iconst 1, 1) := by decide +kernel
theorem dL_addSalt_14 : decode cL_addSalt 14 = .ok (.ireturn, 1) := by decide +kernel
theorem dL_addSalt_15 : decode cL_addSalt 15 = .ok (.astore_n 3, 1) := by decide +kernel
theorem dL_addSalt_16 : decode cL_addSalt 16 = .ok (.iconst 2, 1) := by decide +kernel
theorem dL_addSalt_17 : decode cL_addSalt 17 = .ok (.ireturn, 1) := by decide +kernel
theorem dL_addSalt_18 : decode cL_addSalt 18 = .ok (.iconst 0, 1) := by decide +kernel
theorem dL_addSalt_19 : decode cL_addSalt 19 = .ok (.ireturn, 1) := by decide +kernel
set_option maxRecDepth 20000 in
theorem ggL_stop_X11_stop : GoodIn wsL_stop wsX11_stop := goodIn_ca (goodIn_ca (goodIn_r _ [6, 7, 8, 9, 10, 11, 12, 13, 5, 14, 15, 16, 17, 18, 19, 20, 21, 22, 23, 24, 25, 26, 27, 28, 29, 30, 31, 32, 33, 34, 35, 36, 37, 38, 39, 40, 41, 42, 43, 44, 45, 46, 47, 48, 49, 50, 51, 52, 53, 54, 55, 56, 57, 58, 59, 60, 61, 62, 63, 64, 65, 66, 67, 68, 69, 70, 71, 72, 73, 74, 75, 76, 77, 78, 79, 80, 81, 82, 83, 84, 85, 86, 87, 88, 89, 90, 91, 92, 93, 94, 95, 96, 97, 98, 99, 100, 101, 102, 103, 104, 105, 106, 107, 108, 109, 110, 111, 112, 113, 114, 115, 116] rfl (by decide +kernel)) (goodIn_sub (fun _ h => List.mem_cons_of_mem _ (List.mem_append_left _ (List.mem_append_right _ h))) (by decide +kernel))) (goodIn_sub (fun _ h => List.mem_cons_of_mem _ (List.mem_append_right _ h)) (by decide +kernel))
set_option maxRecDepth 20000 in
theorem gL_stop_X11_stop : GoodIn wsL_stop (wsV RL 119 RX11 yX11_stop wsX11_stop) := goodIn_app (goodIn_of _ (by decide +kernel)) ggL_stop_X11_stop
theorem dL_stop_0 : decode cL_stop 0 = .ok (.aload_n 2, 1) := by decide +kernel
theorem dL_stop_1 : decode cL_stop 1 = .ok (.iconst 0, 1) := by decide +kernel
theorem dL_stop_2 : decode cL_stop 2 = .ok (.aload_n 0, 1) := by decide +kernel
theorem dL_stop_3 : decode cL_stop 3 = .ok (.iload_n 1, 1) := by decide +kernel
theorem dL_stop_4 : decode cL_stop 4 = .ok (.invokevirtual 119, 3) := by decide +kernel
theorem dL_stop_7 : decode cL_stop 7 = .ok (.i2l, 1) := by decide +kernel
theorem dL_stop_8 : decode cL_stop 8 = .ok (.lastore, 1) := by decide +kernel
theorem dL_stop_9 : decode cL_stop 9 = .ok (.goto 9, 3) := by decide +kernel
theorem dL_stop_12 : decode cL_stop 12 = .ok (.astore_n 3, 1) := by decide +kernel
theorem dL_stop_13 : decode cL_stop 13 = .ok (.iconst 1, 1) := by decide +kernel
theorem dL_stop_14 : decode cL_stop 14 = .ok (.ireturn, 1) := by decide +kernel
theorem dL_stop_15 : decode cL_stop 15 = .ok (.astore_n 3, 1) := by decide +kernel
theorem dL_stop_16 : decode cL_stop 16 = .ok (.iconst 2, 1) := by decide +kernel
theorem dL_stop_17 : decode cL_stop 17 = .ok (.ireturn, 1) := by decide +kernel
theorem dL_stop_18 : decode cL_stop 18 = .ok (.iconst 0, 1) := by decide +kernel
theorem dL_stop_19 : decode cL_stop 19 = .ok (.ireturn, 1) := by decide +kernel
set_option maxRecDepth 20000 in
theorem ggL_redo_X11_redo : GoodIn wsL_redo wsX11_redo := goodIn_ca (goodIn_ca (goodIn_r _ [6, 7, 8, 9, 10, 11, 12, 13, 5, 14, 15, 16, 17, 18, 19, 20, 21, 22, 23, 24, 25, 26, 27, 28, 29, 30, 31, 32, 33, 34, 35, 36, 37, 38, 39, 40, 41, 42, 43, 44, 45, 46, 47, 48, 49, 50, 51, 52, 53, 54, 55, 56, 57, 58, 59, 60, 61, 62, 63, 64, 65, 66, 67, 68, 69, 70, 71, 72, 73, 74, 75, 76, 77, 78, 79, 80, 81, 82, 83, 84, 85, 86, 87, 88, 89, 90, 91, 92, 93, 94, 95, 96, 97, 98, 99, 100, 101, 102, 103, 104, 105, 106, 107, 108, 109, 110, 111, 112, 113, 114, 115, 116, 117, 118, 119, 120, 121, 122, 123, 124, 125, 126] rfl (by decide +kernel)) (goodIn_sub (fun _ h => List.mem_cons_of_mem _ (List.mem_append_left _ (List.mem_append_right _ h))) (by decide +kernel))) (goodIn_sub (fun _ h => List.mem_cons_of_mem _ (List.mem_append_right _ h)) (by decide +kernel))
set_option maxRecDepth 20000 in
theorem gL_redo_X11_redo : GoodIn wsL_redo (wsV RL 122 RX11 yX11_redo wsX11_redo) := goodIn_app (goodIn_of _ (by decide +kernel)) ggL_redo_X11_redo
theorem dL_redo_0 : decode cL_redo 0 = .ok (.aload_n 2, 1) := by decide +kernel
theorem dL_redo_1 : decode cL_redo 1 = .ok (.iconst 0, 1) := by decide +kernel
theorem dL_redo_2 : decode cL_redo 2 = .ok (.aload_n 0, 1) := by decide +kernel
theorem dL_redo_3 : decode cL_redo 3 = .ok (.iload_n 1, 1) := by decide +kernel
theorem dL_redo_4 : decode cL_redo 4 = .ok (.invokevirtual 122, 3) := by decide +kernel
theorem dL_redo_7 : decode cL_redo 7 = .ok (.i2l, 1) := by decide +kernel
theorem dL_redo_8 : decode cL_redo 8 = .ok (.lastore, 1) := by decide +kernel
theorem dL_redo_9 : decode cL_redo 9 = .ok (.goto 9, 3) := by decide +kernel
theorem dL_redo_12 : decode cL_redo 12 = .ok (.astore_n 3, 1) := by decide +kernel
theorem dL_redo_13 : decode cL_redo 13 = .ok (.iconst 1, 1) := by decide +kernel
theorem dL_redo_14 : decode cL_redo 14 = .ok (.ireturn, 1) := by decide +kernel
theorem dL_redo_15 : decode cL_redo 15 = .ok (.astore_n 3, 1) := by decide +kernel
theorem dL_redo_16 : decode cL_redo 16 = .ok (.iconst 2, 1) := by decide +kernel
theorem dL_redo_17 : decode cL_redo 17 = .ok (.ireturn, 1) := by decide +kernel
theorem dL_redo_18 : decode cL_redo 18 = .ok (.iconst 0, 1) := by decide +kernel
theorem dL_redo_19 : decode cL_redo 19 = .ok (.ireturn, 1) := by decide +kernel
set_option maxRecDepth 20000 in
theorem ggL_setCooks_X11_setCooks : GoodIn wsL_setCooks wsX11_setCooks := goodIn_ca (goodIn_r _ [6, 7, 8, 9, 10, 11, 5, 12, 13, 14, 15, 16, 17, 18, 19, 20, 21, 22, 23, 24, 25, 26, 27, 28, 29, 30, 31, 32, 33, 34, 35, 36, 37, 38, 39, 40, 41, 42, 43, 44, 45, 46, 47, 48, 49, 50, 51, 52, 53, 54, 55, 56, 57, 58, 59, 60, 61, 62, 63, 64, 65, 66, 67, 68, 69, 70, 71, 72, 73, 74, 75, 76, 77, 78, 79, 80, 81, 82, 83, 84, 85, 86, 87, 88, 89, 90, 91] rfl (by decide +kernel)) (goodIn_sub (fun _ h => List.mem_cons_of_mem _ (List.mem_append_right _ h)) (by decide +kernel))
set_option maxRecDepth 20000 in
theorem gL_setCooks_X11_setCooks : GoodIn wsL_setCooks (wsV RL 125 RX11 yX11_setCooks wsX11_setCooks) := goodIn_app (goodIn_of _ (by decide +kernel)) ggL_setCooks_X11_setCooks
theorem dL_setCooks_0 : decode cL_setCooks 0 = .ok (.aload_n 2, 1) := by decide +kernel
theorem dL_setCooks_1 : decode cL_setCooks 1 = .ok (.iconst 0, 1) := by decide +kernel
theorem dL_setCooks_2 : decode cL_setCooks 2 = .ok (.aload_n 0, 1) := by decide +kernel
theorem dL_setCooks_3 : decode cL_setCooks 3 = .ok (.iload_n 1, 1) := by decide +kernel
theorem dL_setCooks_4 : decode cL_setCooks 4 = .ok (.invokevirtual 125, 3) := by decide +kernel
theorem dL_setCooks_7 : decode cL_setCooks 7 = .ok (.i2l, 1) := by decide +kernel
theorem dL_setCooks_8 : decode cL_setCooks 8 = .ok (.lastore, 1) := by decide +kernel
theorem dL_setCooks_9 : decode cL_setCooks 9 = .ok (.goto 6, 3) := by decide +kernel
theorem dL_setCooks_12 : decode cL_setCooks 12 = .ok (.astore_n 3, 1) := by decide +kernel
theorem dL_setCooks_13 : decode cL_setCooks 13 = .ok (.iconst 1, 1) := by decide +kernel
theorem dL_setCooks_14 : decode cL_setCooks 14 = .ok (.ireturn, 1) := by decide +kernel
theorem dL_setCooks_15 : decode cL_setCooks 15 = .ok (.iconst 0, 1) := by decide +kernel
theorem dL_setCooks_16 : decode cL_setCooks 16 = .ok (.ireturn, 1) := by decide +kernel
set_option maxRecDepth 20000 in
theorem ggL_setDuration_X11_setDuration : GoodIn wsL_setDuration wsX11_setDuration := goodIn_ca (goodIn_ca (goodIn_r _ [6, 7, 8, 9, 10, 11, 12, 13, 5, 14, 15, 16, 17, 18, 19, 20, 21, 22, 23, 24, 25, 26, 27, 28, 29, 30, 31, 32, 33, 34, 35, 36, 37, 38, 39, 40, 41, 42, 43, 44, 45, 46, 47, 48, 49, 50, 51, 52, 53, 54, 55, 56, 57, 58, 59, 60, 61, 62, 63, 64, 65, 66, 67, 68, 69, 70, 71, 72, 73, 74, 75, 76, 77, 78, 79, 80, 81, 82, 83, 84, 85, 86, 87, 88, 89, 90, 91, 92, 93, 94, 95, 96, 97, 98, 99, 100, 101, 102, 103, 104, 105, 106, 107, 108, 109, 110, 111, 112, 113] rfl (by decide +kernel)) (goodIn_sub (fun _ h => List.mem_cons_of_mem _ (List.mem_append_left _ (List.mem_append_right _ h))) (by decide +kernel))) (goodIn_sub (fun _ h => List.mem_cons_of_mem _ (List.mem_append_right _ h)) (by decide +kernel))
set_option maxRecDepth 20000 in
theorem gL_setDuration_X11_setDuration : GoodIn wsL_setDuration (wsV RL 128 RX11 yX11_setDuration wsX11_setDuration) := goodIn_app (goodIn_of _ (by decide +kernel)) ggL_setDuration_X11_setDuration
theorem dL_setDuration_0 : decode cL_setDuration 0 = .ok (.aload_n 3, 1) := by decide +kernel
theorem dL_setDuration_1 : decode cL_setDuration 1 = .ok (.iconst 0, 1) := by decide +kernel
theorem dL_setDuration_2 : decode cL_setDuration 2 = .ok (.aload_n 0, 1) := by decide +kernel
theorem dL_setDuration_3 : decode cL_setDuration 3 = .ok (.iload_n 1, 1) := by decide +kernel
theorem dL_setDuration_4 : decode cL_setDuration 4 = .ok (.iload_n 2, 1) := by decide +kernel
theorem dL_setDuration_5 : decode cL_setDuration 5 = .ok (.invokevirtual 128, 3) := by decide +kernel
theorem dL_setDuration_8 : decode cL_setDuration 8 = .ok (.i2l, 1) := by decide +kernel
theorem dL_setDuration_9 : decode cL_setDuration 9 = .ok (.lastore, 1) := by decide +kernel
theorem dL_setDuration_10 : decode cL_setDuration 10 = .ok (.goto 11, 3) := by decide +kernel
theorem dL_setDuration_13 : decode cL_setDuration 13 = .ok (.astore 4, 2) := by decide +kernel
theorem dL_setDuration_15 : decode cL_setDuration 15 = .ok (.iconst 1, 1) := by decide +kernel
theorem dL_setDuration_16 : decode cL_setDuration 16 = .ok (.ireturn, 1) := by decide +kernel
theorem dL_setDuration_17 : decode cL_setDuration 17 = .ok (.astore 4, 2) := by decide +kernel
theorem dL_setDuration_19 : decode cL_setDuration 19 = .ok (.iconst 2, 1) := by decide +kernel
theorem dL_setDuration_20 : decode cL_setDuration 20 = .ok (.ireturn, 1) := by decide +kernel
theorem dL_setDuration_21 : decode cL_setDuration 21 = .ok (.iconst 0, 1) := by decide +kernel
theorem dL_setDuration_22 : decode cL_setDuration 22 = .ok (.ireturn, 1) := by decide +kernel
set_option maxRecDepth 20000 in
theorem ggL_serve_X11_serve : GoodIn wsL_serve wsX11_serve := goodIn_ca (goodIn_r _ [6, 7, 8, 9, 10, 11, 12, 13, 14, 15, 16, 17, 18, 19, 20, 21, 22, 23, 24, 25, 26, 27, 28, 5, 29, 30, 31, 32, 33, 34, 35, 36, 37, 38, 39, 40, 41, 42, 43, 44, 45, 46, 47, 48, 49, 50, 51, 52, 53, 54, 55, 56, 57, 58, 59, 60, 61, 62, 63, 64, 65, 66, 67, 68, 69, 70, 71, 72, 73, 74, 75, 76, 77, 78, 79, 80, 81, 82, 83, 84, 85, 86, 87, 88, 89, 90, 91, 92, 93, 94, 95, 96, 97, 98, 99, 100, 101, 102, 103, 104, 105, 106, 107, 108, 109, 110, 111, 112, 113, 114, 115, 116, 117, 118, 119, 120] rfl (by decide +kernel)) (goodIn_sub (fun _ h => List.mem_cons_of_mem _ (List.mem_append_right _ h)) (by decide +kernel))
set_option maxRecDepth 20000 in
theorem gL_serve_X11_serve : GoodIn wsL_serve (wsV RL 131 RX11 yX11_serve wsX11_serve) := goodIn_app (goodIn_of _ (by decide +kernel)) ggL_serve_X11_serve
theorem dL_serve_0 : decode cL_serve 0 = .ok (.aload_n 1, 1) := by decide +kernel
theorem dL_serve_1 : decode cL_serve 1 = .ok (.iconst 0, 1) := by decide +kernel
theorem dL_serve_2 : decode cL_serve 2 = .ok (.aload_n 0, 1) := by decide +kernel
theorem dL_serve_3 : decode cL_serve 3 = .ok (.invokevirtual 131, 3) := by decide +kernel
theorem dL_serve_6 : decode cL_serve 6 = .ok (.i2l, 1) := by decide +kernel
theorem dL_serve_7 : decode cL_serve 7 = .ok (.lastore, 1) := by decide +kernel
theorem dL_serve_8 : decode cL_serve 8 = .ok (.goto 6, 3) := by decide +kernel
theorem dL_serve_11 : decode cL_serve 11 = .ok (.astore_n 2, 1) := by decide +kernel
theorem dL_serve_12 : decode cL_serve 12 = .ok (.iconst 1, 1) := by decide +kernel
theorem dL_serve_13 : decode cL_serve 13 = .ok (.ireturn, 1) := by decide +kernel
theorem dL_serve_14 : decode cL_serve 14 = .ok (.iconst 0, 1) := by decide +kernel
theorem dL_serve_15 : decode cL_serve 15 = .ok (.ireturn, 1) := by decide +kernel
set_option maxRecDepth 20000 in
theorem ggL_runScript_X11_runScript : GoodIn wsL_runScript wsX11_runScript := goodIn_ca (goodIn_r _ [6, 7, 8, 9, 10, 11, 12, 13, 14, 15, 16, 17, 18, 19, 20, 21, 22, 23, 24, 25, 26, 27, 28, 29, 30, 31, 32, 33, 34, 35, 36, 5, 37, 38, 39, 40, 41, 42, 43, 44, 45, 46, 47, 48, 49, 50, 51, 52, 53, 54, 55, 56, 57, 58, 59, 60, 61, 62, 63, 64, 65, 66, 67, 68, 69, 70, 71, 72, 73, 74, 75, 76, 77, 78, 79, 80, 81, 82, 83, 84, 85, 86, 87, 88, 89, 90, 91, 92, 93, 94, 95, 96, 97, 98, 99, 100, 101, 102, 103, 104, 105, 106, 107, 108, 109, 110, 111, 112, 113, 114, 115, 116, 117, 118, 119, 120, 121, 122, 123, 124, 125, 126, 127, 128, 129, 130, 131, 132, 133, 134, 135, 136, 137, 138, 139, 140, 141, 142, 143, 144, 145, 146, 147, 148, 149, 150, 151, 152, 153, 154, 155, 156, 157, 158, 159, 160, 161, 162, 163, 164, 165, 166, 167, 168, 169, 170, 171, 172, 173, 174, 175, 176, 177, 178, 179, 180, 181, 182, 183, 184, 185, 186, 187, 188, 189, 190, 191, 192, 193, 194, 195, 196, 197, 198, 199, 200, 201, 202, 203, 204, 205, 206, 207, 208, 209, 210, 211, 212, 213, 214, 215, 216, 217, 218, 219, 220, 221, 222, 223, 224, 225, 226, 227, 228, 229, 230, 231, 232, 233, 234, 235, 236, 237, 238, 239, 240, 241, 242, 243, 244, 245, 246, 247, 248, 249, 250, 251, 252, 253, 254, 255, 256, 257, 258, 259, 260, 261, 262, 263, 264, 265, 266, 267, 268, 269, 270, 271, 272, 273, 274, 275, 276, 277, 278, 279, 280, 281, 282, 283, 284, 285, 286, 287, 288, 289, 290, 291, 292, 293, 294, 295, 296, 297, 298, 299, 300, 301, 302, 303, 304, 305, 306, 307, 308, 309, 310, 311, 312, 313, 314, 315, 316, 317, 318, 319, 320, 321, 322, 323, 324, 325, 326, 327, 328, 329, 330, 331, 332, 333, 334, 335, 336, 337, 338, 339, 340, 341, 342, 343, 344, 345, 346, 347, 348, 349, 350, 351, 352, 353, 354, 355, 356, 357, 358, 359, 360, 361, 362, 363, 364, 365, 366, 367, 368, 369, 370, 371, 372, 373, 374, 375, 376, 377, 378, 379, 380, 381, 382, 383, 384, 385, 386, 387, 388, 389, 390, 391] rfl (by decide +kernel)) (goodIn_sub (fun _ h => List.mem_cons_of_mem _ (List.mem_append_right _ h)) (by decide +kernel))
set_option maxRecDepth 20000 in
theorem gL_runScript_X11_runScript : GoodIn wsL_runScript (wsV RL 134 RX11 yX11_runScript wsX11_runScript) := goodIn_app (goodIn_of _ (by decide +kernel)) ggL_runScript_X11_runScript
theorem dL_runScript_0 : decode cL_runScript 0 = .ok (.aload_n 1, 1) := by decide +kernel
theorem dL_runScript_1 : decode cL_runScript 1 = .ok (.iconst 0, 1) := by decide +kernel
theorem dL_runScript_2 : decode cL_runScript 2 = .ok (.aload_n 0, 1) := by decide +kernel
theorem dL_runScript_3 : decode cL_runScript 3 = .ok (.invokevirtual 134, 3) := by decide +kernel
theorem dL_runScript_6 : decode cL_runScript 6 = .ok (.i2l, 1) := by decide +kernel
theorem dL_runScript_7 : decode cL_runScript 7 = .ok (.lastore, 1) := by decide +kernel
theorem dL_runScript_8 : decode cL_runScript 8 = .ok (.goto 6, 3) := by decide +kernel
theorem dL_runScript_11 : decode cL_runScript 11 = .ok (.astore_n 2, 1) := by decide +kernel
theorem dL_runScript_12 : decode cL_runScript 12 = .ok (.iconst 1, 1) := by decide +kernel
theorem dL_runScript_13 : decode cL_runScript 13 = .ok (.ireturn, 1) := by decide +kernel
theorem dL_runScript_14 : decode cL_runScript 14 = .ok (.iconst 0, 1) := by decide +kernel
theorem dL_runScript_15 : decode cL_runScript 15 = .ok (.ireturn, 1) := by decide +kernel
set_option maxRecDepth 20000 in
theorem ggL_undo_X11_undo : GoodIn wsL_undo wsX11_undo := goodIn_ca (goodIn_r _ [6, 7, 8, 9, 10, 11, 12, 13, 14, 15, 16, 17, 18, 19, 20, 21, 22, 23, 24, 25, 26, 27, 28, 29, 30, 31, 32, 33, 34, 35, 36, 37, 38, 39, 40, 41, 42, 43, 44, 45, 46, 47, 48, 49, 50, 51, 52, 53, 54, 55, 56, 57, 58, 59, 60, 61, 62, 63, 64, 65, 66, 67, 68, 69, 70, 71, 72, 73, 74, 75, 76] rfl (by decide +kernel)) (goodIn_sub (fun _ h => List.mem_cons_of_mem _ (List.mem_append_right _ h)) (by decide +kernel))
set_option maxRecDepth 20000 in
theorem gL_undo_X11_undo : GoodIn wsL_undo (wsV RL 137 RX11 yX11_undo wsX11_undo) := goodIn_app (goodIn_of _ (by decide +kernel)) ggL_undo_X11_undo
theorem dL_undo_0 : decode cL_undo 0 = .ok (.aload_n 1, 1) := by decide +kernel
theorem dL_undo_1 : decode cL_undo 1 = .ok (.iconst 0, 1) := by decide +kernel
theorem dL_undo_2 : decode cL_undo 2 = .ok (.aload_n 0, 1) := by decide +kernel
theorem dL_undo_3 : decode cL_undo 3 = .ok (.invokevirtual 137, 3) := by decide +kernel
theorem dL_undo_6 : decode cL_undo 6 = .ok (.i2l, 1) := by decide +kernel
theorem dL_undo_7 : decode cL_undo 7 = .ok (.lastore, 1) := by decide +kernel
theorem dL_undo_8 : decode cL_undo 8 = .ok (.goto 6, 3) := by decide +kernel
theorem dL_undo_11 : decode cL_undo 11 = .ok (.astore_n 2, 1) := by decide +kernel
theorem dL_undo_12 : decode cL_undo 12 = .ok (.iconst 1, 1) := by decide +kernel
theorem dL_undo_13 : decode cL_undo 13 = .ok (.ireturn, 1) := by decide +kernel
theorem dL_undo_14 : decode cL_undo 14 = .ok (.iconst 0, 1) := by decide +kernel
theorem dL_undo_15 : decode cL_undo 15 = .ok (.ireturn, 1) := by decide +kernel
set_option maxRecDepth 20000 in
theorem ggL_save_X11_save : GoodIn wsL_save wsX11_save := goodIn_ca (goodIn_r _ [6, 7, 8, 9, 10, 11, 12, 5, 13, 14, 15, 16, 17, 18, 19, 20, 21, 22, 23, 24, 25, 26, 27, 28, 29, 30, 31, 32, 33, 34, 35, 36, 37, 38, 39, 40, 41, 42, 43, 44, 45, 46, 47, 48, 49, 50, 51, 52, 53, 54, 55, 56, 57, 58, 59, 60, 61, 62, 63, 64, 65, 66, 67, 68, 69, 70, 71, 72, 73] rfl (by decide +kernel)) (goodIn_sub (fun _ h => List.mem_cons_of_mem _ (List.mem_append_right _ h)) (by decide +kernel))
set_option maxRecDepth 20000 in
theorem gL_save_X11_save : GoodIn wsL_save (wsV RL 140 RX11 yX11_save wsX11_save) := goodIn_app (goodIn_of _ (by decide +kernel)) ggL_save_X11_save
theorem dL_save_0 : decode cL_save 0 = .ok (.aload_n 2, 1) := by decide +kernel
theorem dL_save_1 : decode cL_save 1 = .ok (.iconst 0, 1) := by decide +kernel
theorem dL_save_2 : decode cL_save 2 = .ok (.aload_n 0, 1) := by decide +kernel
theorem dL_save_3 : decode cL_save 3 = .ok (.iload_n 1, 1) := by decide +kernel
theorem dL_save_4 : decode cL_save 4 = .ok (.invokevirtual 140, 3) := by decide +kernel
theorem dL_save_7 : decode cL_save 7 = .ok (.i2l, 1) := by decide +kernel
theorem dL_save_8 : decode cL_save 8 = .ok (.lastore, 1) := by decide +kernel
theorem dL_save_9 : decode cL_save 9 = .ok (.goto 6, 3) := by decide +kernel
theorem dL_save_12 : decode cL_save 12 = .ok (.astore_n 3, 1) := by decide +kernel
theorem dL_save_13 : decode cL_save 13 = .ok (.iconst 1, 1) := by decide +kernel
theorem dL_save_14 : decode cL_save 14 = .ok (.ireturn, 1) := by decide +kernel
theorem dL_save_15 : decode cL_save 15 = .ok (.iconst 0, 1) := by decide +kernel
theorem dL_save_16 : decode cL_save 16 = .ok (.ireturn, 1) := by decide +kernel
set_option maxRecDepth 20000 in
theorem ggL_restore_X11_restore : GoodIn wsL_restore wsX11_restore := goodIn_ca (goodIn_ca (goodIn_r _ [6, 7, 8, 9, 10, 11, 12, 13, 14, 15, 5, 16, 17, 18, 19, 20, 21, 22, 23, 24, 25, 26, 27, 28, 29, 30, 31, 32, 33, 34, 35, 36, 37, 38, 39, 40, 41, 42, 43, 44, 45, 46, 47, 48, 49, 50, 51, 52, 53, 54, 55, 56, 57, 58, 59, 60, 61, 62, 63, 64, 65, 66, 67, 68, 69, 70, 71, 72, 73, 74, 75, 76, 77, 78, 79] rfl (by decide +kernel)) (goodIn_sub (fun _ h => List.mem_cons_of_mem _ (List.mem_append_left _ (List.mem_append_right _ h))) (by decide +kernel))) (goodIn_sub (fun _ h => List.mem_cons_of_mem _ (List.mem_append_right _ h)) (by decide +kernel))
set_option maxRecDepth 20000 in
theorem gL_restore_X11_restore : GoodIn wsL_restore (wsV RL 143 RX11 yX11_restore wsX11_restore) := goodIn_app (goodIn_of _ (by decide +kernel)) ggL_restore_X11_restore
theorem dL_restore_0 : decode cL_restore 0 = .ok (.aload_n 2, 1) := by decide +kernel
theorem dL_restore_1 : decode cL_restore 1 = .ok (.iconst 0, 1) := by decide +kernel
theorem dL_restore_2 : decode cL_restore 2 = .ok (.aload_n 0, 1) := by decide +kernel
theorem dL_restore_3 : decode cL_restore 3 = .ok (.iload_n 1, 1) := by decide +kernel
theorem dL_restore_4 : decode cL_restore 4 = .ok (.invokevirtual 143, 3) := by decide +kernel
theorem dL_restore_7 : decode cL_restore 7 = .ok (.i2l, 1) := by decide +kernel
theorem dL_restore_8 : decode cL_restore 8 = .ok (.lastore, 1) := by decide +kernel
theorem dL_restore_9 : decode cL_restore 9 = .ok (.goto 9, 3) := by decide +kernel
theorem dL_restore_12 : decode cL_restore 12 = .ok (.astore_n 3, 1) := by decide +kernel
theorem dL_restore_13 : decode cL_restore 13 = .ok (.iconst 1, 1) := by decide +kernel
theorem dL_restore_14 : decode cL_restore 14 = .ok (.ireturn, 1) := by decide +kernel
theorem dL_restore_15 : decode cL_restore 15 = .ok (.astore_n 3, 1) := by decide +kernel
theorem dL_restore_16 : decode cL_restore 16 = .ok (.iconst 2, 1) := by decide +kernel
theorem dL_restore_17 : decode cL_restore 17 = .ok (.ireturn, 1) := by decide +kernel
theorem dL_restore_18 : decode cL_restore 18 = .ok (.iconst 0, 1) := by decide +kernel
theorem dL_restore_19 : decode cL_restore 19 = .ok (.ireturn, 1) := by decide +kernel
set_option maxRecDepth 20000 in
theorem ggL_outputByte_X11_outputByte : GoodIn wsL_outputByte wsX11_outputByte := goodIn_ca (goodIn_r _ [6, 7, 8, 9, 10, 11, 5, 12, 13, 14, 15, 16, 17, 18, 19, 20, 21, 22, 23, 24, 25] rfl (by decide +kernel)) (goodIn_sub (fun _ h => List.mem_cons_of_mem _ (List.mem_append_right _ h)) (by decide +kernel))
set_option maxRecDepth 20000 in
theorem gL_outputByte_X11_outputByte : GoodIn wsL_outputByte (wsV RL 146 RX11 yX11_outputByte wsX11_outputByte) := goodIn_app (goodIn_of _ (by decide +kernel)) ggL_outputByte_X11_outputByte
theorem dL_outputByte_0 : decode cL_outputByte 0 = .ok (.aload_n 2, 1) := by decide +kernel
theorem dL_outputByte_1 : decode cL_outputByte 1 = .ok (.iconst 0, 1) := by decide +kernel
theorem dL_outputByte_2 : decode cL_outputByte 2 = .ok (.aload_n 0, 1) := by decide +kernel
theorem dL_outputByte_3 : decode cL_outputByte 3 = .ok (.iload_n 1, 1) := by decide +kernel
theorem dL_outputByte_4 : decode cL_outputByte 4 = .ok (.invokevirtual 146, 3) := by decide +kernel
theorem dL_outputByte_7 : decode cL_outputByte 7 = .ok (.i2l, 1) := by decide +kernel
theorem dL_outputByte_8 : decode cL_outputByte 8 = .ok (.lastore, 1) := by decide +kernel
theorem dL_outputByte_9 : decode cL_outputByte 9 = .ok (.goto 6, 3) := by decide +kernel
theorem dL_outputByte_12 : decode cL_outputByte 12 = .ok (.astore_n 3, 1) := by decide +kernel
theorem dL_outputByte_13 : decode cL_outputByte 13 = .ok (.iconst 1, 1) := by decide +kernel
theorem dL_outputByte_14 : decode cL_outputByte 14 = .ok (.ireturn, 1) := by decide +kernel
theorem dL_outputByte_15 : decode cL_outputByte 15 = .ok (.iconst 0, 1) := by decide +kernel
theorem dL_outputByte_16 : decode cL_outputByte 16 = .ok (.ireturn, 1) := by decide +kernel
set_option maxRecDepth 20000 in
theorem ggL_law_X11_init : GoodIn wsL_law wsX11_init := goodIn_r _ [9, 10, 11, 12, 13, 14, 15, 16, 17, 18, 19, 20, 21, 22, 23, 24, 25, 26, 27, 28, 29, 30, 31, 32, 33, 34, 35, 36, 37, 38, 39, 40, 41, 42, 43, 44, 45, 46, 47, 48, 49, 50, 51, 52, 53, 54, 55, 56, 57, 58, 59, 60, 61, 62, 63, 64, 65, 66, 67, 68, 69, 70, 71, 72, 73, 74, 75, 76, 77, 78, 79, 80, 81, 82, 83, 84, 85, 86, 87, 88, 89, 90, 91, 92, 93, 94, 95, 96, 97, 98, 99, 100, 101, 102, 103, 104, 105, 106, 107, 108, 109, 110, 111, 112, 113, 114, 115, 116, 117, 118, 119, 120, 121, 122, 123, 124, 125, 126, 127, 128, 129, 130, 131, 132, 133, 134, 135, 136, 137, 138, 139, 140, 141, 142, 143, 144, 145, 146, 147, 148, 149, 150, 151, 152, 153, 154, 155, 156, 157, 158, 159, 160, 161, 162, 163, 164, 165, 166, 167, 168, 169, 170, 171, 172, 173, 174, 175, 176, 177, 178, 179, 2, 180, 181, 182, 183, 184, 185, 186, 187, 188, 189, 190, 191, 192, 193, 194, 195, 196, 197, 198, 199, 200, 201, 202, 203, 204, 205, 206, 207, 208, 209, 210, 211, 212, 213, 214, 215, 216, 217, 218, 219, 220, 221, 222, 223, 224, 225, 226, 227, 228, 229, 230, 231, 232, 233, 234, 235, 236, 237, 238, 239, 240, 241, 242, 243, 244, 245, 246, 247, 248, 249, 250, 251, 252, 253, 254, 255, 256, 257, 258, 259, 260, 261, 262, 263, 264, 265, 266, 267, 268, 269, 270, 271, 272, 273, 274, 275, 276, 277, 278, 279, 280, 281, 282, 283, 284, 285, 286, 287, 288, 289, 290, 291, 292, 293, 294, 295, 296, 297, 298, 299, 300, 301, 302, 303, 304, 305, 306, 307, 308, 309, 310, 311, 312, 313, 314, 315, 316, 317, 318, 319, 320, 321, 1599, 1600, 1601, 1602, 1603, 1604, 1605, 1606, 1607, 1608, 1609, 1610, 1611, 1612, 1613, 1614, 1615, 1616, 1617, 1618, 1619, 1620, 1621, 1622, 1623, 1624, 1569, 1570, 1571, 1572, 1573, 1574, 1575, 1576, 1577, 1578, 1579, 1625, 1626, 1627, 1628, 1629, 1630, 1631, 1632, 1633, 1634, 1635, 1636, 1637, 1638, 1639, 1640, 1641, 1642, 1643, 1644, 1645, 1646, 1647, 1648, 1649, 1650, 1651, 1652, 1653, 1654, 1655] rfl (by decide +kernel)
set_option maxRecDepth 20000 in
theorem gL_law_X11_init : GoodIn wsL_law (wsX11_init) := ggL_law_X11_init
set_option maxRecDepth 20000 in
theorem ggL_law_X12_init : GoodIn wsL_law wsX12_init := goodIn_r _ [324, 325, 11, 12, 73, 326, 46, 327, 328, 329, 330, 331, 332, 333, 334, 335, 336, 337, 338, 339, 340, 341, 342, 343, 344, 345, 97, 98, 99, 100, 101, 102, 103, 104, 105, 106, 107, 346, 109, 110, 111, 112, 113, 114, 115, 116, 117, 118, 119, 120, 121, 122, 123, 124, 125, 126, 127, 128, 129, 130, 131, 132, 133, 134, 135, 136, 137, 138, 139, 140, 141, 142, 143, 144, 347, 348, 349, 5, 350, 351, 352, 353, 354, 355, 356, 357, 358, 359, 360, 361, 362, 363, 364, 365, 366, 367, 368, 369, 370, 371, 372, 373, 374, 375, 376, 377, 378, 379, 380, 381, 382, 383, 384, 385, 386, 387, 388, 389, 390, 391, 392, 393, 394, 395, 396, 397, 398, 399, 400, 401, 402, 403, 404, 405, 406, 407, 408, 409, 410, 411, 412, 413, 414, 415, 416, 417, 418, 419, 420, 421, 422, 423, 1580, 1581, 1582, 1583, 1584, 1585, 1586, 1587, 1588, 1589, 1590, 1591, 1592, 1593, 1594, 1595, 1596, 1597, 1598] rfl (by decide +kernel)
set_option maxRecDepth 20000 in
theorem gL_law_X12_init : GoodIn wsL_law (wsX12_init) := ggL_law_X12_init
set_option maxRecDepth 20000 in
theorem ggL_law_L_append : GoodIn wsL_law wsL_append := goodIn_ca (goodIn_r _ [427, 428, 429, 430, 431, 2, 432, 433, 434, 25, 435, 436, 437, 15, 438, 145, 146, 147, 148, 149, 54, 1569, 1570, 1571, 1572, 1573, 1574, 1575, 1576, 1577, 1578, 1579, 1599, 1600] rfl (by decide +kernel)) (goodIn_sub (fun _ h => List.mem_append_left _ (List.mem_append_left _ (List.mem_append_left _ (List.mem_append_right _ h)))) (by decide +kernel))
set_option maxRecDepth 20000 in
theorem gL_law_L_append : GoodIn wsL_law (va_wsS RL 153 yL_append wsL_append) := goodIn_app (goodIn_of _ (by decide +kernel)) ggL_law_L_append
set_option maxRecDepth 20000 in
theorem ggL_law_X12_append : GoodIn wsL_law wsX12_append := goodIn_r _ [442, 330, 443, 444, 445, 5, 446, 335, 447, 448, 449, 450, 329, 1580, 1581, 1582, 1583, 1584, 1585, 1586, 1587, 1588, 1589, 1590, 1591, 1592, 1593, 1594, 1595, 1596, 1597, 1598] rfl (by decide +kernel)
set_option maxRecDepth 20000 in
theorem gL_law_X12_append : GoodIn wsL_law (wsV RL 158 RX12 yX12_append wsX12_append) := goodIn_app (goodIn_of _ (by decide +kernel)) ggL_law_X12_append
set_option maxRecDepth 20000 in
theorem ggL_law_X12_thrown : GoodIn wsL_law wsX12_thrown := goodIn_r _ [454, 335, 1580, 1581, 1582, 1583, 1584, 1585, 1586, 1587, 1588, 1589, 1590, 1591, 1592, 1593, 1594, 1595, 1596, 1597, 1598] rfl (by decide +kernel)
set_option maxRecDepth 20000 in
theorem gL_law_X12_thrown : GoodIn wsL_law (wsV RL 159 RX12 yX12_thrown wsX12_thrown) := goodIn_app (goodIn_of _ (by decide +kernel)) ggL_law_X12_thrown
set_option maxRecDepth 20000 in
theorem ggL_law_L_truncate : GoodIn wsL_law wsL_truncate := goodIn_ca (goodIn_r _ [457, 458, 459, 460, 461, 2, 462, 463, 464, 25, 465, 179, 180, 1569, 1570, 1571, 1572, 1573, 1574, 1575, 1576, 1577, 1578, 1579, 1599, 1600] rfl (by decide +kernel)) (goodIn_sub (fun _ h => List.mem_append_left _ (List.mem_append_left _ (List.mem_append_right _ h))) (by decide +kernel))
set_option maxRecDepth 20000 in
theorem gL_law_L_truncate : GoodIn wsL_law (va_wsS RL 162 yL_truncate wsL_truncate) := goodIn_app (goodIn_of _ (by decide +kernel)) ggL_law_L_truncate
set_option maxRecDepth 20000 in
theorem ggL_law_X12_truncate : GoodIn wsL_law wsX12_truncate := goodIn_r _ [469, 330, 377, 378, 5, 379, 443, 444, 445, 446, 335, 1580, 1581, 1582, 1583, 1584, 1585, 1586, 1587, 1588, 1589, 1590, 1591, 1592, 1593, 1594, 1595, 1596, 1597, 1598] rfl (by decide +kernel)
set_option maxRecDepth 20000 in
theorem gL_law_X12_truncate : GoodIn wsL_law (wsV RL 165 RX12 yX12_truncate wsX12_truncate) := goodIn_app (goodIn_of _ (by decide +kernel)) ggL_law_X12_truncate
set_option maxRecDepth 20000 in
theorem ggL_law_L_load : GoodIn wsL_law wsL_load := goodIn_ca (goodIn_r _ [472, 458, 473, 474, 475, 2, 476, 28, 48, 25, 36, 47, 41, 150, 151, 152, 21, 153, 65, 154, 155, 156, 24, 157, 72, 76, 158, 159, 75, 82, 83, 84, 160, 161, 162, 163, 164, 165, 166, 18, 167, 168, 60, 169, 170, 171, 172, 173, 174, 59, 175, 176, 177, 178, 179, 180, 181, 182, 183, 184, 185, 186, 187, 188, 189, 190, 191, 192, 193, 194, 195, 196, 197, 97, 98, 99, 100, 101, 102, 103, 104, 105, 106, 107, 198, 109, 110, 111, 112, 113, 114, 115, 116, 117, 118, 119, 120, 121, 122, 123, 124, 125, 126, 127, 128, 129, 130, 131, 132, 133, 134, 135, 136, 137, 138, 139, 140, 141, 142, 143, 144, 199, 200, 201, 202, 203, 204, 205, 206, 207, 208, 209, 210, 211, 212, 213, 214, 215, 216, 217, 218, 219, 71, 220, 221, 91, 222, 223, 224, 225, 226, 227, 228, 229, 230, 231, 232, 233, 234, 90, 235, 236, 237, 238, 239, 240, 241, 242, 243, 244, 245, 246, 247, 248, 249, 250, 251, 252, 253, 254, 255, 256, 257, 258, 259, 260, 261, 262, 263, 264, 265, 81, 266, 267, 268, 269, 477, 478, 479, 480, 463, 464, 27, 481, 482, 483, 35, 484, 288, 284, 298, 299, 300, 45, 301, 302, 303, 304, 305, 306, 307, 308, 309, 310, 292, 311, 312, 313, 314, 293, 294, 295, 296, 297, 315, 1569, 1570, 1571, 1572, 1573, 1574, 1575, 1576, 1577, 1578, 1579, 1599, 1600, 1630, 1631, 1632, 1633, 1634, 1635, 1636, 1637, 1608, 1609, 1610, 1611, 1612, 1613, 1614, 1615, 1616, 1617, 1618, 1619, 1620, 1621, 1622, 1623, 1624, 1653, 1654, 1655, 1607, 1601, 1602, 1603, 1604, 1605, 1606, 1638, 1639, 1640, 1641, 1642, 1643, 1644, 1645, 1646, 1647, 1648, 1649, 1650, 1651, 1652] rfl (by decide +kernel)) (goodIn_sub (fun _ h => List.mem_append_left _ (List.mem_append_left _ (List.mem_append_right _ h))) (by decide +kernel))
set_option maxRecDepth 20000 in
theorem gL_law_L_load : GoodIn wsL_law (va_wsS RL 166 yL_load wsL_load) := goodIn_app (goodIn_of _ (by decide +kernel)) ggL_law_L_load
set_option maxRecDepth 20000 in
theorem ggL_law_X12_load : GoodIn wsL_law wsX12_load := goodIn_r _ [488, 330, 328, 327, 326, 489, 490, 491, 5, 492, 347, 348, 349, 350, 331, 332, 340, 351, 352, 353, 354, 329, 342, 341, 343, 355, 356, 357, 358, 359, 360, 361, 362, 363, 364, 365, 366, 367, 368, 345, 97, 98, 99, 100, 101, 102, 103, 104, 105, 106, 107, 346, 109, 110, 111, 112, 113, 114, 115, 116, 117, 118, 119, 120, 121, 122, 123, 124, 125, 126, 127, 128, 129, 130, 131, 132, 133, 134, 135, 136, 137, 138, 139, 140, 141, 142, 143, 144, 369, 370, 371, 372, 373, 374, 375, 376, 377, 378, 379, 380, 381, 382, 383, 384, 385, 386, 387, 388, 389, 390, 391, 392, 393, 394, 395, 396, 397, 398, 399, 400, 401, 402, 403, 404, 405, 406, 407, 408, 409, 410, 411, 412, 413, 414, 415, 416, 417, 418, 419, 420, 421, 422, 423, 443, 444, 445, 446, 335, 1580, 1581, 1582, 1583, 1584, 1585, 1586, 1587, 1588, 1589, 1590, 1591, 1592, 1593, 1594, 1595, 1596, 1597, 1598] rfl (by decide +kernel)
set_option maxRecDepth 20000 in
theorem gL_law_X12_load : GoodIn wsL_law (wsV RL 169 RX12 yX12_load wsX12_load) := goodIn_app (goodIn_of _ (by decide +kernel)) ggL_law_X12_load
set_option maxRecDepth 20000 in
theorem ggL_law_X11_errorCode : GoodIn wsL_law wsX11_errorCode := goodIn_r _ [496, 27, 1569, 1570, 1571, 1572, 1573, 1574, 1575, 1576, 1577, 1578, 1579, 1601, 1602, 1603, 1604, 1605, 1606] rfl (by decide +kernel)
set_option maxRecDepth 20000 in
theorem gL_law_X11_errorCode : GoodIn wsL_law (wsV RL 170 RX11 yX11_errorCode wsX11_errorCode) := goodIn_app (goodIn_of _ (by decide +kernel)) ggL_law_X11_errorCode
set_option maxRecDepth 20000 in
theorem ggL_law_X12_errorCode : GoodIn wsL_law wsX12_errorCode := goodIn_r _ [500, 335, 331, 1580, 1581, 1582, 1583, 1584, 1585, 1586, 1587, 1588, 1589, 1590, 1591, 1592, 1593, 1594, 1595, 1596, 1597, 1598] rfl (by decide +kernel)
set_option maxRecDepth 20000 in
theorem gL_law_X12_errorCode : GoodIn wsL_law (wsV RL 173 RX12 yX12_errorCode wsX12_errorCode) := goodIn_app (goodIn_of _ (by decide +kernel)) ggL_law_X12_errorCode
set_option maxRecDepth 20000 in
theorem ggL_law_X11_errorPosition : GoodIn wsL_law wsX11_errorPosition := goodIn_r _ [504, 27, 1569, 1570, 1571, 1572, 1573, 1574, 1575, 1576, 1577, 1578, 1579, 1601, 1602, 1603, 1604, 1605, 1606] rfl (by decide +kernel)
set_option maxRecDepth 20000 in
theorem gL_law_X11_errorPosition : GoodIn wsL_law (wsV RL 174 RX11 yX11_errorPosition wsX11_errorPosition) := goodIn_app (goodIn_of _ (by decide +kernel)) ggL_law_X11_errorPosition
set_option maxRecDepth 20000 in
theorem ggL_law_X12_errorPosition : GoodIn wsL_law wsX12_errorPosition := goodIn_r _ [508, 335, 332, 1580, 1581, 1582, 1583, 1584, 1585, 1586, 1587, 1588, 1589, 1590, 1591, 1592, 1593, 1594, 1595, 1596, 1597, 1598] rfl (by decide +kernel)
set_option maxRecDepth 20000 in
theorem gL_law_X12_errorPosition : GoodIn wsL_law (wsV RL 177 RX12 yX12_errorPosition wsX12_errorPosition) := goodIn_app (goodIn_of _ (by decide +kernel)) ggL_law_X12_errorPosition
set_option maxRecDepth 20000 in
theorem ggL_law_X11_stepCount : GoodIn wsL_law wsX11_stepCount := goodIn_r _ [512, 36, 1569, 1570, 1571, 1572, 1573, 1574, 1575, 1576, 1577, 1578, 1579, 1630, 1631, 1632, 1633, 1634, 1608, 1609, 1610, 1611, 1612, 1613, 1614, 1615, 1616, 1617, 1618, 1619, 1620, 1621, 1622, 1623, 1624, 1653, 1654, 1655] rfl (by decide +kernel)
set_option maxRecDepth 20000 in
theorem gL_law_X11_stepCount : GoodIn wsL_law (wsV RL 178 RX11 yX11_stepCount wsX11_stepCount) := goodIn_app (goodIn_of _ (by decide +kernel)) ggL_law_X11_stepCount
set_option maxRecDepth 20000 in
theorem ggL_law_X12_stepCount : GoodIn wsL_law wsX12_stepCount := goodIn_r _ [516, 326, 517, 518, 519, 5, 520, 335, 1580, 1581, 1582, 1583, 1584, 1585, 1586, 1587, 1588, 1589, 1590, 1591, 1592, 1593, 1594, 1595, 1596, 1597, 1598] rfl (by decide +kernel)
set_option maxRecDepth 20000 in
theorem gL_law_X12_stepCount : GoodIn wsL_law (wsV RL 181 RX12 yX12_stepCount wsX12_stepCount) := goodIn_app (goodIn_of _ (by decide +kernel)) ggL_law_X12_stepCount
set_option maxRecDepth 20000 in
theorem ggL_law_X11_cooks : GoodIn wsL_law wsX11_cooks := goodIn_r _ [524, 36, 1569, 1570, 1571, 1572, 1573, 1574, 1575, 1576, 1577, 1578, 1579, 1630, 1631, 1632, 1633, 1634, 1638, 1639, 1640, 1641, 1642, 1643, 1644, 1645, 1646, 1647, 1648, 1649, 1650, 1651, 1652] rfl (by decide +kernel)
set_option maxRecDepth 20000 in
theorem gL_law_X11_cooks : GoodIn wsL_law (wsV RL 182 RX11 yX11_cooks wsX11_cooks) := goodIn_app (goodIn_of _ (by decide +kernel)) ggL_law_X11_cooks
set_option maxRecDepth 20000 in
theorem ggL_law_X12_cooks : GoodIn wsL_law wsX12_cooks := goodIn_r _ [528, 326, 517, 518, 519, 5, 520, 335, 1580, 1581, 1582, 1583, 1584, 1585, 1586, 1587, 1588, 1589, 1590, 1591, 1592, 1593, 1594, 1595, 1596, 1597, 1598] rfl (by decide +kernel)
set_option maxRecDepth 20000 in
theorem gL_law_X12_cooks : GoodIn wsL_law (wsV RL 185 RX12 yX12_cooks wsX12_cooks) := goodIn_app (goodIn_of _ (by decide +kernel)) ggL_law_X12_cooks
set_option maxRecDepth 20000 in
theorem ggL_law_X11_minute : GoodIn wsL_law wsX11_minute := goodIn_r _ [532, 36, 1569, 1570, 1571, 1572, 1573, 1574, 1575, 1576, 1577, 1578, 1579, 1630, 1631, 1632, 1633, 1634, 1638, 1639, 1640, 1641, 1642, 1643, 1644, 1645, 1646, 1647, 1648, 1649, 1650, 1651, 1652] rfl (by decide +kernel)
set_option maxRecDepth 20000 in
theorem gL_law_X11_minute : GoodIn wsL_law (wsV RL 186 RX11 yX11_minute wsX11_minute) := goodIn_app (goodIn_of _ (by decide +kernel)) ggL_law_X11_minute
set_option maxRecDepth 20000 in
theorem ggL_law_X12_minute : GoodIn wsL_law wsX12_minute := goodIn_r _ [536, 326, 517, 518, 519, 5, 520, 335, 1580, 1581, 1582, 1583, 1584, 1585, 1586, 1587, 1588, 1589, 1590, 1591, 1592, 1593, 1594, 1595, 1596, 1597, 1598] rfl (by decide +kernel)
set_option maxRecDepth 20000 in
theorem gL_law_X12_minute : GoodIn wsL_law (wsV RL 189 RX12 yX12_minute wsX12_minute) := goodIn_app (goodIn_of _ (by decide +kernel)) ggL_law_X12_minute
set_option maxRecDepth 20000 in
theorem ggL_law_X11_salt : GoodIn wsL_law wsX11_salt := goodIn_r _ [540, 36, 1569, 1570, 1571, 1572, 1573, 1574, 1575, 1576, 1577, 1578, 1579, 1630, 1631, 1632, 1633, 1634, 1638, 1639, 1640, 1641, 1642, 1643, 1644, 1645, 1646, 1647, 1648, 1649, 1650, 1651, 1652] rfl (by decide +kernel)
set_option maxRecDepth 20000 in
theorem gL_law_X11_salt : GoodIn wsL_law (wsV RL 190 RX11 yX11_salt wsX11_salt) := goodIn_app (goodIn_of _ (by decide +kernel)) ggL_law_X11_salt
set_option maxRecDepth 20000 in
theorem ggL_law_X12_salt : GoodIn wsL_law wsX12_salt := goodIn_r _ [544, 326, 517, 518, 519, 5, 520, 335, 1580, 1581, 1582, 1583, 1584, 1585, 1586, 1587, 1588, 1589, 1590, 1591, 1592, 1593, 1594, 1595, 1596, 1597, 1598] rfl (by decide +kernel)
set_option maxRecDepth 20000 in
theorem gL_law_X12_salt : GoodIn wsL_law (wsV RL 193 RX12 yX12_salt wsX12_salt) := goodIn_app (goodIn_of _ (by decide +kernel)) ggL_law_X12_salt
set_option maxRecDepth 20000 in
theorem ggL_law_X11_taste : GoodIn wsL_law wsX11_taste := goodIn_r _ [548, 36, 549, 550, 551, 35, 552, 284, 288, 260, 2, 261, 1569, 1570, 1571, 1572, 1573, 1574, 1575, 1576, 1577, 1578, 1579, 1630, 1631, 1632, 1633, 1634, 1638, 1639, 1640, 1641, 1642, 1643, 1644, 1645, 1646, 1647, 1648, 1649, 1650, 1651, 1652, 1608, 1609, 1610, 1611, 1612, 1613, 1614, 1615, 1616, 1617, 1618, 1619, 1620, 1621, 1622, 1623, 1624, 1653, 1654, 1655] rfl (by decide +kernel)
set_option maxRecDepth 20000 in
theorem gL_law_X11_taste : GoodIn wsL_law (wsV RL 194 RX11 yX11_taste wsX11_taste) := goodIn_app (goodIn_of _ (by decide +kernel)) ggL_law_X11_taste
set_option maxRecDepth 20000 in
theorem ggL_law_X12_taste : GoodIn wsL_law wsX12_taste := goodIn_r _ [556, 557, 558, 559, 5, 560, 326, 561, 562, 563, 564, 517, 518, 519, 520, 335, 1580, 1581, 1582, 1583, 1584, 1585, 1586, 1587, 1588, 1589, 1590, 1591, 1592, 1593, 1594, 1595, 1596, 1597, 1598] rfl (by decide +kernel)
set_option maxRecDepth 20000 in
theorem gL_law_X12_taste : GoodIn wsL_law (wsV RL 197 RX12 yX12_taste wsX12_taste) := goodIn_app (goodIn_of _ (by decide +kernel)) ggL_law_X12_taste
set_option maxRecDepth 20000 in
theorem ggL_law_L_countWithStatus : GoodIn wsL_law wsL_countWithStatus := goodIn_ca (goodIn_r _ [567, 458, 568, 569, 570, 2, 571, 463, 464, 36, 465, 179, 180, 572, 573, 574, 45, 575, 308, 309, 310, 260, 261, 1569, 1570, 1571, 1572, 1573, 1574, 1575, 1576, 1577, 1578, 1579, 1630, 1631, 1632, 1633, 1634, 1608, 1609, 1610, 1611, 1612, 1613, 1614, 1615, 1616, 1617, 1618, 1619, 1620, 1621, 1622, 1623, 1624, 1653, 1654, 1655, 1638, 1639, 1640, 1641, 1642, 1643, 1644, 1645, 1646, 1647, 1648, 1649, 1650, 1651, 1652] rfl (by decide +kernel)) (goodIn_sub (fun _ h => List.mem_append_left _ (List.mem_append_left _ (List.mem_append_right _ h))) (by decide +kernel))
set_option maxRecDepth 20000 in
theorem gL_law_L_countWithStatus : GoodIn wsL_law (va_wsS RL 198 yL_countWithStatus wsL_countWithStatus) := goodIn_app (goodIn_of _ (by decide +kernel)) ggL_law_L_countWithStatus
set_option maxRecDepth 20000 in
theorem ggL_law_X12_countWithStatus : GoodIn wsL_law wsX12_countWithStatus := goodIn_r _ [579, 377, 378, 5, 379, 443, 444, 445, 446, 335, 580, 581, 582, 583, 326, 561, 562, 563, 564, 1580, 1581, 1582, 1583, 1584, 1585, 1586, 1587, 1588, 1589, 1590, 1591, 1592, 1593, 1594, 1595, 1596, 1597, 1598] rfl (by decide +kernel)
set_option maxRecDepth 20000 in
theorem gL_law_X12_countWithStatus : GoodIn wsL_law (wsV RL 200 RX12 yX12_countWithStatus wsX12_countWithStatus) := goodIn_app (goodIn_of _ (by decide +kernel)) ggL_law_X12_countWithStatus
set_option maxRecDepth 20000 in
theorem ggL_law_X11_starts : GoodIn wsL_law wsX11_starts := goodIn_r _ [587, 36, 588, 589, 2, 590, 1569, 1570, 1571, 1572, 1573, 1574, 1575, 1576, 1577, 1578, 1579, 1630, 1631, 1632, 1633, 1634, 1638, 1639, 1640, 1641, 1642, 1643, 1644, 1645, 1646, 1647, 1648, 1649, 1650, 1651, 1652, 1608, 1609, 1610, 1611, 1612, 1613, 1614, 1615, 1616, 1617, 1618, 1619, 1620, 1621, 1622, 1623, 1624, 1653, 1654, 1655] rfl (by decide +kernel)
set_option maxRecDepth 20000 in
theorem gL_law_X11_starts : GoodIn wsL_law (wsV RL 201 RX11 yX11_starts wsX11_starts) := goodIn_app (goodIn_of _ (by decide +kernel)) ggL_law_X11_starts
set_option maxRecDepth 20000 in
theorem ggL_law_X12_starts : GoodIn wsL_law wsX12_starts := goodIn_r _ [594, 326, 517, 518, 519, 5, 520, 335, 1580, 1581, 1582, 1583, 1584, 1585, 1586, 1587, 1588, 1589, 1590, 1591, 1592, 1593, 1594, 1595, 1596, 1597, 1598] rfl (by decide +kernel)
set_option maxRecDepth 20000 in
theorem gL_law_X12_starts : GoodIn wsL_law (wsV RL 204 RX12 yX12_starts wsX12_starts) := goodIn_app (goodIn_of _ (by decide +kernel)) ggL_law_X12_starts
set_option maxRecDepth 20000 in
theorem ggL_law_X11_completions : GoodIn wsL_law wsX11_completions := goodIn_r _ [598, 36, 588, 589, 2, 590, 1569, 1570, 1571, 1572, 1573, 1574, 1575, 1576, 1577, 1578, 1579, 1630, 1631, 1632, 1633, 1634, 1638, 1639, 1640, 1641, 1642, 1643, 1644, 1645, 1646, 1647, 1648, 1649, 1650, 1651, 1652, 1608, 1609, 1610, 1611, 1612, 1613, 1614, 1615, 1616, 1617, 1618, 1619, 1620, 1621, 1622, 1623, 1624, 1653, 1654, 1655] rfl (by decide +kernel)
set_option maxRecDepth 20000 in
theorem gL_law_X11_completions : GoodIn wsL_law (wsV RL 205 RX11 yX11_completions wsX11_completions) := goodIn_app (goodIn_of _ (by decide +kernel)) ggL_law_X11_completions
set_option maxRecDepth 20000 in
theorem ggL_law_X12_completions : GoodIn wsL_law wsX12_completions := goodIn_r _ [602, 326, 517, 518, 519, 5, 520, 335, 1580, 1581, 1582, 1583, 1584, 1585, 1586, 1587, 1588, 1589, 1590, 1591, 1592, 1593, 1594, 1595, 1596, 1597, 1598] rfl (by decide +kernel)
set_option maxRecDepth 20000 in
theorem gL_law_X12_completions : GoodIn wsL_law (wsV RL 208 RX12 yX12_completions wsX12_completions) := goodIn_app (goodIn_of _ (by decide +kernel)) ggL_law_X12_completions
set_option maxRecDepth 20000 in
theorem ggL_law_X11_burns : GoodIn wsL_law wsX11_burns := goodIn_r _ [606, 36, 588, 589, 2, 590, 1569, 1570, 1571, 1572, 1573, 1574, 1575, 1576, 1577, 1578, 1579, 1630, 1631, 1632, 1633, 1634, 1638, 1639, 1640, 1641, 1642, 1643, 1644, 1645, 1646, 1647, 1648, 1649, 1650, 1651, 1652, 1608, 1609, 1610, 1611, 1612, 1613, 1614, 1615, 1616, 1617, 1618, 1619, 1620, 1621, 1622, 1623, 1624, 1653, 1654, 1655] rfl (by decide +kernel)
set_option maxRecDepth 20000 in
theorem gL_law_X11_burns : GoodIn wsL_law (wsV RL 209 RX11 yX11_burns wsX11_burns) := goodIn_app (goodIn_of _ (by decide +kernel)) ggL_law_X11_burns
set_option maxRecDepth 20000 in
theorem ggL_law_X12_burns : GoodIn wsL_law wsX12_burns := goodIn_r _ [610, 326, 517, 518, 519, 5, 520, 335, 1580, 1581, 1582, 1583, 1584, 1585, 1586, 1587, 1588, 1589, 1590, 1591, 1592, 1593, 1594, 1595, 1596, 1597, 1598] rfl (by decide +kernel)
set_option maxRecDepth 20000 in
theorem gL_law_X12_burns : GoodIn wsL_law (wsV RL 212 RX12 yX12_burns wsX12_burns) := goodIn_app (goodIn_of _ (by decide +kernel)) ggL_law_X12_burns
set_option maxRecDepth 20000 in
theorem ggL_law_X11_cookMinutes : GoodIn wsL_law wsX11_cookMinutes := goodIn_r _ [614, 36, 1569, 1570, 1571, 1572, 1573, 1574, 1575, 1576, 1577, 1578, 1579, 1630, 1631, 1632, 1633, 1634, 1638, 1639, 1640, 1641, 1642, 1643, 1644, 1645, 1646, 1647, 1648, 1649, 1650, 1651, 1652] rfl (by decide +kernel)
set_option maxRecDepth 20000 in
theorem gL_law_X11_cookMinutes : GoodIn wsL_law (wsV RL 213 RX11 yX11_cookMinutes wsX11_cookMinutes) := goodIn_app (goodIn_of _ (by decide +kernel)) ggL_law_X11_cookMinutes
set_option maxRecDepth 20000 in
theorem ggL_law_X12_cookMinutes : GoodIn wsL_law wsX12_cookMinutes := goodIn_r _ [618, 326, 517, 518, 519, 5, 520, 335, 1580, 1581, 1582, 1583, 1584, 1585, 1586, 1587, 1588, 1589, 1590, 1591, 1592, 1593, 1594, 1595, 1596, 1597, 1598] rfl (by decide +kernel)
set_option maxRecDepth 20000 in
theorem gL_law_X12_cookMinutes : GoodIn wsL_law (wsV RL 216 RX12 yX12_cookMinutes wsX12_cookMinutes) := goodIn_app (goodIn_of _ (by decide +kernel)) ggL_law_X12_cookMinutes
