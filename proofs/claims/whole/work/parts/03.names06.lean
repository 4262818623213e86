set_option maxRecDepth 20000 in
theorem gX12_init_X12_parseSetup : GoodIn wsX12_init (wsV RX12 83 RX12 yX12_parseSetup wsX12_parseSetup) := goodIn_app (goodIn_of _ (by decide +kernel)) ggX12_init_X12_parseSetup
theorem dX12_init_0 : decode cX12_init 0 = .ok (.aload_n 0, 1) := by decide +kernel
theorem dX12_init_1 : decode cX12_init 1 = .ok (.invokespecial 7, 3) := by decide +kernel
theorem dX12_init_4 : decode cX12_init 4 = .ok (.aload_n 0, 1) := by decide +kernel
theorem dX12_init_5 : decode cX12_init 5 = .ok (.sipush 4202, 3) := by decide +kernel
theorem dX12_init_8 : decode cX12_init 8 = .ok (.newarray .int, 2) := by decide +kernel
theorem dX12_init_10 : decode cX12_init 10 = .ok (.putfield 13, 3) := by decide +kernel
theorem dX12_init_13 : decode cX12_init 13 = .ok (.aload_n 0, 1) := by decide +kernel
theorem dX12_init_14 : decode cX12_init 14 = .ok (.iconst 2, 1) := by decide +kernel
theorem dX12_init_15 : decode cX12_init 15 = .ok (.newarray .boolean, 2) := by decide +kernel
theorem dX12_init_17 : decode cX12_init 17 = .ok (.putfield 17, 3) := by decide +kernel
theorem dX12_init_20 : decode cX12_init 20 = .ok (.aload_n 0, 1) := by decide +kernel
theorem dX12_init_21 : decode cX12_init 21 = .ok (.iconst 0, 1) := by decide +kernel
theorem dX12_init_22 : decode cX12_init 22 = .ok (.putfield 21, 3) := by decide +kernel
theorem dX12_init_25 : decode cX12_init 25 = .ok (.aload_n 0, 1) := by decide +kernel
theorem dX12_init_26 : decode cX12_init 26 = .ok (.sipush 700, 3) := by decide +kernel
theorem dX12_init_29 : decode cX12_init 29 = .ok (.newarray .int, 2) := by decide +kernel
theorem dX12_init_31 : decode cX12_init 31 = .ok (.putfield 24, 3) := by decide +kernel
theorem dX12_init_34 : decode cX12_init 34 = .ok (.aload_n 0, 1) := by decide +kernel
theorem dX12_init_35 : decode cX12_init 35 = .ok (.iconst 0, 1) := by decide +kernel
theorem dX12_init_36 : decode cX12_init 36 = .ok (.putfield 27, 3) := by decide +kernel
theorem dX12_init_39 : decode cX12_init 39 = .ok (.aload_n 0, 1) := by decide +kernel
theorem dX12_init_40 : decode cX12_init 40 = .ok (.iconst 0, 1) := by decide +kernel
theorem dX12_init_41 : decode cX12_init 41 = .ok (.putfield 30, 3) := by decide +kernel
theorem dX12_init_44 : decode cX12_init 44 = .ok (.aload_n 0, 1) := by decide +kernel
theorem dX12_init_45 : decode cX12_init 45 = .ok (.iconst (-1), 1) := by decide +kernel
theorem dX12_init_46 : decode cX12_init 46 = .ok (.putfield 33, 3) := by decide +kernel
theorem dX12_init_49 : decode cX12_init 49 = .ok (.aload_n 0, 1) := by decide +kernel
theorem dX12_init_50 : decode cX12_init 50 = .ok (.sipush 150, 3) := by decide +kernel
theorem dX12_init_53 : decode cX12_init 53 = .ok (.newarray .int, 2) := by decide +kernel
theorem dX12_init_55 : decode cX12_init 55 = .ok (.putfield 36, 3) := by decide +kernel
theorem dX12_init_58 : decode cX12_init 58 = .ok (.aload_n 0, 1) := by decide +kernel
theorem dX12_init_59 : decode cX12_init 59 = .ok (.iconst 0, 1) := by decide +kernel
theorem dX12_init_60 : decode cX12_init 60 = .ok (.putfield 39, 3) := by decide +kernel
theorem dX12_init_63 : decode cX12_init 63 = .ok (.aload_n 0, 1) := by decide +kernel
theorem dX12_init_64 : decode cX12_init 64 = .ok (.iconst 0, 1) := by decide +kernel
theorem dX12_init_65 : decode cX12_init 65 = .ok (.putfield 1, 3) := by decide +kernel
theorem dX12_init_68 : decode cX12_init 68 = .ok (.aload_n 0, 1) := by decide +kernel
theorem dX12_init_69 : decode cX12_init 69 = .ok (.bipush 14, 2) := by decide +kernel
theorem dX12_init_71 : decode cX12_init 71 = .ok (.newarray .int, 2) := by decide +kernel
theorem dX12_init_73 : decode cX12_init 73 = .ok (.putfield 42, 3) := by decide +kernel
theorem dX12_init_76 : decode cX12_init 76 = .ok (.aload_n 0, 1) := by decide +kernel
theorem dX12_init_77 : decode cX12_init 77 = .ok (.bipush 14, 2) := by decide +kernel
theorem dX12_init_79 : decode cX12_init 79 = .ok (.newarray .int, 2) := by decide +kernel
theorem dX12_init_81 : decode cX12_init 81 = .ok (.putfield 45, 3) := by decide +kernel
theorem dX12_init_84 : decode cX12_init 84 = .ok (.aload_n 0, 1) := by decide +kernel
theorem dX12_init_85 : decode cX12_init 85 = .ok (.bipush 14, 2) := by decide +kernel
theorem dX12_init_87 : decode cX12_init 87 = .ok (.newarray .boolean, 2) := by decide +kernel
theorem dX12_init_89 : decode cX12_init 89 = .ok (.putfield 48, 3) := by decide +kernel
theorem dX12_init_92 : decode cX12_init 92 = .ok (.aload_n 0, 1) := by decide +kernel
theorem dX12_init_93 : decode cX12_init 93 = .ok (.bipush 14, 2) := by decide +kernel
theorem dX12_init_95 : decode cX12_init 95 = .ok (.newarray .int, 2) := by decide +kernel
theorem dX12_init_97 : decode cX12_init 97 = .ok (.putfield 51, 3) := by decide +kernel
theorem dX12_init_100 : decode cX12_init 100 = .ok (.aload_n 0, 1) := by decide +kernel
theorem dX12_init_101 : decode cX12_init 101 = .ok (.iconst 0, 1) := by decide +kernel
theorem dX12_init_102 : decode cX12_init 102 = .ok (.putfield 54, 3) := by decide +kernel
theorem dX12_init_105 : decode cX12_init 105 = .ok (.aload_n 0, 1) := by decide +kernel
theorem dX12_init_106 : decode cX12_init 106 = .ok (.iconst 0, 1) := by decide +kernel
theorem dX12_init_107 : decode cX12_init 107 = .ok (.putfield 57, 3) := by decide +kernel
theorem dX12_init_110 : decode cX12_init 110 = .ok (.aload_n 0, 1) := by decide +kernel
theorem dX12_init_111 : decode cX12_init 111 = .ok (.iconst 0, 1) := by decide +kernel
theorem dX12_init_112 : decode cX12_init 112 = .ok (.putfield 60, 3) := by decide +kernel
theorem dX12_init_115 : decode cX12_init 115 = .ok (.aload_n 0, 1) := by decide +kernel
theorem dX12_init_116 : decode cX12_init 116 = .ok (.iconst 0, 1) := by decide +kernel
theorem dX12_init_117 : decode cX12_init 117 = .ok (.putfield 63, 3) := by decide +kernel
theorem dX12_init_120 : decode cX12_init 120 = .ok (.aload_n 0, 1) := by decide +kernel
theorem dX12_init_121 : decode cX12_init 121 = .ok (.bipush 90, 2) := by decide +kernel
theorem dX12_init_123 : decode cX12_init 123 = .ok (.newarray .int, 2) := by decide +kernel
theorem dX12_init_125 : decode cX12_init 125 = .ok (.putfield 66, 3) := by decide +kernel
theorem dX12_init_128 : decode cX12_init 128 = .ok (.ldc 69, 2) := by decide +kernel
theorem dX12_init_130 : decode cX12_init 130 = .ok (.astore_n 1, 1) := by decide +kernel
theorem dX12_init_131 : decode cX12_init 131 = .ok (.iconst 0, 1) := by decide +kernel
theorem dX12_init_132 : decode cX12_init 132 = .ok (.istore_n 2, 1) := by decide +kernel
theorem dX12_init_133 : decode cX12_init 133 = .ok (.iload_n 2, 1) := by decide +kernel
theorem dX12_init_134 : decode cX12_init 134 = .ok (.aload_n 1, 1) := by decide +kernel
theorem dX12_init_135 : decode cX12_init 135 = .ok (.invokevirtual 71, 3) := by decide +kernel
theorem dX12_init_138 : decode cX12_init 138 = .ok (.if_icmp .ge 20, 3) := by decide +kernel
theorem dX12_init_141 : decode cX12_init 141 = .ok (.aload_n 0, 1) := by decide +kernel
theorem dX12_init_142 : decode cX12_init 142 = .ok (.getfield 24, 3) := by decide +kernel
theorem dX12_init_145 : decode cX12_init 145 = .ok (.iload_n 2, 1) := by decide +kernel
theorem dX12_init_146 : decode cX12_init 146 = .ok (.aload_n 1, 1) := by decide +kernel
theorem dX12_init_147 : decode cX12_init 147 = .ok (.iload_n 2, 1) := by decide +kernel
theorem dX12_init_148 : decode cX12_init 148 = .ok (.invokevirtual 76, 3) := by decide +kernel
theorem dX12_init_151 : decode cX12_init 151 = .ok (.iastore, 1) := by decide +kernel
theorem dX12_init_152 : decode cX12_init 152 = .ok (.iinc 2 1, 3) := by decide +kernel
theorem dX12_init_155 : decode cX12_init 155 = .ok (.goto (-22), 3) := by decide +kernel
theorem dX12_init_158 : decode cX12_init 158 = .ok (.aload_n 0, 1) := by decide +kernel
theorem dX12_init_159 : decode cX12_init 159 = .ok (.aload_n 1, 1) := by decide +kernel
theorem dX12_init_160 : decode cX12_init 160 = .ok (.invokevirtual 71, 3) := by decide +kernel
theorem dX12_init_163 : decode cX12_init 163 = .ok (.putfield 27, 3) := by decide +kernel
theorem dX12_init_166 : decode cX12_init 166 = .ok (.aload_n 0, 1) := by decide +kernel
theorem dX12_init_167 : decode cX12_init 167 = .ok (.invokevirtual 80, 3) := by decide +kernel
theorem dX12_init_170 : decode cX12_init 170 = .ok (.aload_n 0, 1) := by decide +kernel
theorem dX12_init_171 : decode cX12_init 171 = .ok (.invokevirtual 83, 3) := by decide +kernel
theorem dX12_init_174 : decode cX12_init 174 = .ok (.pop, 1) := by decide +kernel
theorem dX12_init_175 : decode cX12_init 175 = .ok (.aload_n 0, 1) := by decide +kernel
theorem dX12_init_176 : decode cX12_init 176 = .ok (.iconst 0, 1) := by decide +kernel
theorem dX12_init_177 : decode cX12_init 177 = .ok (.putfield 27, 3) := by decide +kernel
theorem dX12_init_180 : decode cX12_init 180 = .ok (.return_, 1) := by decide +kernel
theorem dX12_fails_0 : decode cX12_fails 0 = .ok (.aload_n 0, 1) := by decide +kernel
theorem dX12_fails_1 : decode cX12_fails 1 = .ok (.iload_n 1, 1) := by decide +kernel
theorem dX12_fails_2 : decode cX12_fails 2 = .ok (.ifCond .eq 7, 3) := by decide +kernel
theorem dX12_fails_5 : decode cX12_fails 5 = .ok (.iconst 1, 1) := by decide +kernel
theorem dX12_fails_6 : decode cX12_fails 6 = .ok (.goto 20, 3) := by decide +kernel
theorem dX12_fails_9 : decode cX12_fails 9 = .ok (.iload_n 2, 1) := by decide +kernel
theorem dX12_fails_10 : decode cX12_fails 10 = .ok (.ifCond .eq 7, 3) := by decide +kernel
theorem dX12_fails_13 : decode cX12_fails 13 = .ok (.iconst 2, 1) := by decide +kernel
theorem dX12_fails_14 : decode cX12_fails 14 = .ok (.goto 12, 3) := by decide +kernel
theorem dX12_fails_17 : decode cX12_fails 17 = .ok (.iload_n 3, 1) := by decide +kernel
theorem dX12_fails_18 : decode cX12_fails 18 = .ok (.ifCond .eq 7, 3) := by decide +kernel
theorem dX12_fails_21 : decode cX12_fails 21 = .ok (.iconst 3, 1) := by decide +kernel
theorem dX12_fails_22 : decode cX12_fails 22 = .ok (.goto 4, 3) := by decide +kernel
theorem dX12_fails_25 : decode cX12_fails 25 = .ok (.iconst 0, 1) := by decide +kernel
theorem dX12_fails_26 : decode cX12_fails 26 = .ok (.putfield 1, 3) := by decide +kernel
theorem dX12_fails_29 : decode cX12_fails 29 = .ok (.aload_n 0, 1) := by decide +kernel
theorem dX12_fails_30 : decode cX12_fails 30 = .ok (.getfield 1, 3) := by decide +kernel
theorem dX12_fails_33 : decode cX12_fails 33 = .ok (.ifCond .le 7, 3) := by decide +kernel
theorem dX12_fails_36 : decode cX12_fails 36 = .ok (.iconst 1, 1) := by decide +kernel
theorem dX12_fails_37 : decode cX12_fails 37 = .ok (.goto 4, 3) := by decide +kernel
theorem dX12_fails_40 : decode cX12_fails 40 = .ok (.iconst 0, 1) := by decide +kernel
theorem dX12_fails_41 : decode cX12_fails 41 = .ok (.ireturn, 1) := by decide +kernel
theorem dX12_in_0 : decode cX12_in 0 = .ok (.iload_n 0, 1) := by decide +kernel
theorem dX12_in_1 : decode cX12_in 1 = .ok (.iload_n 1, 1) := by decide +kernel
theorem dX12_in_2 : decode cX12_in 2 = .ok (.if_icmp .lt 12, 3) := by decide +kernel
theorem dX12_in_5 : decode cX12_in 5 = .ok (.iload_n 0, 1) := by decide +kernel
theorem dX12_in_6 : decode cX12_in 6 = .ok (.iload_n 2, 1) := by decide +kernel
theorem dX12_in_7 : decode cX12_in 7 = .ok (.if_icmp .gt 7, 3) := by decide +kernel
theorem dX12_in_10 : decode cX12_in 10 = .ok (.iconst 1, 1) := by decide +kernel
theorem dX12_in_11 : decode cX12_in 11 = .ok (.goto 4, 3) := by decide +kernel
theorem dX12_in_14 : decode cX12_in 14 = .ok (.iconst 0, 1) := by decide +kernel
theorem dX12_in_15 : decode cX12_in 15 = .ok (.ireturn, 1) := by decide +kernel
set_option maxRecDepth 20000 in
theorem ggX12_isStep_X12_in : GoodIn wsX12_isStep wsX12_in := goodIn_r _ [5] rfl (by decide +kernel)
set_option maxRecDepth 20000 in
theorem gX12_isStep_X12_in : GoodIn wsX12_isStep (va_wsS RX12 87 yX12_in wsX12_in) := goodIn_app (goodIn_of _ (by decide +kernel)) ggX12_isStep_X12_in
theorem dX12_isStep_0 : decode cX12_isStep 0 = .ok (.iload_n 1, 1) := by decide +kernel
theorem dX12_isStep_1 : decode cX12_isStep 1 = .ok (.iconst 0, 1) := by decide +kernel
theorem dX12_isStep_2 : decode cX12_isStep 2 = .ok (.aload_n 0, 1) := by decide +kernel
theorem dX12_isStep_3 : decode cX12_isStep 3 = .ok (.getfield 13, 3) := by decide +kernel
theorem dX12_isStep_6 : decode cX12_isStep 6 = .ok (.bipush 13, 2) := by decide +kernel
theorem dX12_isStep_8 : decode cX12_isStep 8 = .ok (.iaload, 1) := by decide +kernel
theorem dX12_isStep_9 : decode cX12_isStep 9 = .ok (.iconst 1, 1) := by decide +kernel
theorem dX12_isStep_10 : decode cX12_isStep 10 = .ok (.isub, 1) := by decide +kernel
theorem dX12_isStep_11 : decode cX12_isStep 11 = .ok (.invokestatic 87, 3) := by decide +kernel
theorem dX12_isStep_14 : decode cX12_isStep 14 = .ok (.ireturn, 1) := by decide +kernel
set_option maxRecDepth 20000 in
theorem ggX12_isPan_X12_in : GoodIn wsX12_isPan wsX12_in := goodIn_r _ [5] rfl (by decide +kernel)
set_option maxRecDepth 20000 in
theorem gX12_isPan_X12_in : GoodIn wsX12_isPan (va_wsS RX12 87 yX12_in wsX12_in) := goodIn_app (goodIn_of _ (by decide +kernel)) ggX12_isPan_X12_in
theorem dX12_isPan_0 : decode cX12_isPan 0 = .ok (.iload_n 1, 1) := by decide +kernel
theorem dX12_isPan_1 : decode cX12_isPan 1 = .ok (.iconst 0, 1) := by decide +kernel
theorem dX12_isPan_2 : decode cX12_isPan 2 = .ok (.aload_n 0, 1) := by decide +kernel
theorem dX12_isPan_3 : decode cX12_isPan 3 = .ok (.getfield 13, 3) := by decide +kernel
theorem dX12_isPan_6 : decode cX12_isPan 6 = .ok (.bipush 12, 2) := by decide +kernel
theorem dX12_isPan_8 : decode cX12_isPan 8 = .ok (.iaload, 1) := by decide +kernel
theorem dX12_isPan_9 : decode cX12_isPan 9 = .ok (.iconst 1, 1) := by decide +kernel
theorem dX12_isPan_10 : decode cX12_isPan 10 = .ok (.isub, 1) := by decide +kernel
theorem dX12_isPan_11 : decode cX12_isPan 11 = .ok (.invokestatic 87, 3) := by decide +kernel
theorem dX12_isPan_14 : decode cX12_isPan 14 = .ok (.ireturn, 1) := by decide +kernel
theorem dX12_of_0 : decode cX12_of 0 = .ok (.aload_n 0, 1) := by decide +kernel
theorem dX12_of_1 : decode cX12_of 1 = .ok (.getfield 13, 3) := by decide +kernel
theorem dX12_of_4 : decode cX12_of 4 = .ok (.bipush 46, 2) := by decide +kernel
theorem dX12_of_6 : decode cX12_of 6 = .ok (.iload_n 1, 1) := by decide +kernel
theorem dX12_of_7 : decode cX12_of 7 = .ok (.bipush 24, 2) := by decide +kernel
theorem dX12_of_9 : decode cX12_of 9 = .ok (.imul, 1) := by decide +kernel
theorem dX12_of_10 : decode cX12_of 10 = .ok (.iadd, 1) := by decide +kernel
theorem dX12_of_11 : decode cX12_of 11 = .ok (.iload_n 2, 1) := by decide +kernel
theorem dX12_of_12 : decode cX12_of 12 = .ok (.iadd, 1) := by decide +kernel
theorem dX12_of_13 : decode cX12_of 13 = .ok (.iaload, 1) := by decide +kernel
theorem dX12_of_14 : decode cX12_of 14 = .ok (.ireturn, 1) := by decide +kernel
theorem dX12_set_0 : decode cX12_set 0 = .ok (.aload_n 0, 1) := by decide +kernel
theorem dX12_set_1 : decode cX12_set 1 = .ok (.getfield 13, 3) := by decide +kernel
theorem dX12_set_4 : decode cX12_set 4 = .ok (.bipush 46, 2) := by decide +kernel
theorem dX12_set_6 : decode cX12_set 6 = .ok (.iload_n 1, 1) := by decide +kernel
theorem dX12_set_7 : decode cX12_set 7 = .ok (.bipush 24, 2) := by decide +kernel
theorem dX12_set_9 : decode cX12_set 9 = .ok (.imul, 1) := by decide +kernel
theorem dX12_set_10 : decode cX12_set 10 = .ok (.iadd, 1) := by decide +kernel
theorem dX12_set_11 : decode cX12_set 11 = .ok (.iload_n 2, 1) := by decide +kernel
theorem dX12_set_12 : decode cX12_set 12 = .ok (.iadd, 1) := by decide +kernel
theorem dX12_set_13 : decode cX12_set 13 = .ok (.iload_n 3, 1) := by decide +kernel
theorem dX12_set_14 : decode cX12_set 14 = .ok (.iastore, 1) := by decide +kernel
theorem dX12_set_15 : decode cX12_set 15 = .ok (.return_, 1) := by decide +kernel
theorem dX12_capacity_0 : decode cX12_capacity 0 = .ok (.aload_n 0, 1) := by decide +kernel
theorem dX12_capacity_1 : decode cX12_capacity 1 = .ok (.getfield 13, 3) := by decide +kernel
theorem dX12_capacity_4 : decode cX12_capacity 4 = .ok (.bipush 14, 2) := by decide +kernel
theorem dX12_capacity_6 : decode cX12_capacity 6 = .ok (.iload_n 1, 1) := by decide +kernel
theorem dX12_capacity_7 : decode cX12_capacity 7 = .ok (.bipush 8, 2) := by decide +kernel
theorem dX12_capacity_9 : decode cX12_capacity 9 = .ok (.imul, 1) := by decide +kernel
theorem dX12_capacity_10 : decode cX12_capacity 10 = .ok (.iadd, 1) := by decide +kernel
theorem dX12_capacity_11 : decode cX12_capacity 11 = .ok (.bipush 7, 2) := by decide +kernel
theorem dX12_capacity_13 : decode cX12_capacity 13 = .ok (.iadd, 1) := by decide +kernel
theorem dX12_capacity_14 : decode cX12_capacity 14 = .ok (.iaload, 1) := by decide +kernel
theorem dX12_capacity_15 : decode cX12_capacity 15 = .ok (.ireturn, 1) := by decide +kernel
theorem dX12_copyBlock_0 : decode cX12_copyBlock 0 = .ok (.iconst 0, 1) := by decide +kernel
theorem dX12_copyBlock_1 : decode cX12_copyBlock 1 = .ok (.istore_n 3, 1) := by decide +kernel
theorem dX12_copyBlock_2 : decode cX12_copyBlock 2 = .ok (.iload_n 3, 1) := by decide +kernel
theorem dX12_copyBlock_3 : decode cX12_copyBlock 3 = .ok (.sipush 382, 3) := by decide +kernel
theorem dX12_copyBlock_6 : decode cX12_copyBlock 6 = .ok (.if_icmp .ge 33, 3) := by decide +kernel
theorem dX12_copyBlock_9 : decode cX12_copyBlock 9 = .ok (.aload_n 0, 1) := by decide +kernel
theorem dX12_copyBlock_10 : decode cX12_copyBlock 10 = .ok (.getfield 13, 3) := by decide +kernel
theorem dX12_copyBlock_13 : decode cX12_copyBlock 13 = .ok (.iload_n 2, 1) := by decide +kernel
theorem dX12_copyBlock_14 : decode cX12_copyBlock 14 = .ok (.sipush 382, 3) := by decide +kernel
theorem dX12_copyBlock_17 : decode cX12_copyBlock 17 = .ok (.imul, 1) := by decide +kernel
theorem dX12_copyBlock_18 : decode cX12_copyBlock 18 = .ok (.iload_n 3, 1) := by decide +kernel
theorem dX12_copyBlock_19 : decode cX12_copyBlock 19 = .ok (.iadd, 1) := by decide +kernel
theorem dX12_copyBlock_20 : decode cX12_copyBlock 20 = .ok (.aload_n 0, 1) := by decide +kernel
theorem dX12_copyBlock_21 : decode cX12_copyBlock 21 = .ok (.getfield 13, 3) := by decide +kernel
theorem dX12_copyBlock_24 : decode cX12_copyBlock 24 = .ok (.iload_n 1, 1) := by decide +kernel
theorem dX12_copyBlock_25 : decode cX12_copyBlock 25 = .ok (.sipush 382, 3) := by decide +kernel
theorem dX12_copyBlock_28 : decode cX12_copyBlock 28 = .ok (.imul, 1) := by decide +kernel
theorem dX12_copyBlock_29 : decode cX12_copyBlock 29 = .ok (.iload_n 3, 1) := by decide +kernel
theorem dX12_copyBlock_30 : decode cX12_copyBlock 30 = .ok (.iadd, 1) := by decide +kernel
theorem dX12_copyBlock_31 : decode cX12_copyBlock 31 = .ok (.iaload, 1) := by decide +kernel
theorem dX12_copyBlock_32 : decode cX12_copyBlock 32 = .ok (.iastore, 1) := by decide +kernel
theorem dX12_copyBlock_33 : decode cX12_copyBlock 33 = .ok (.iinc 3 1, 3) := by decide +kernel
theorem dX12_copyBlock_36 : decode cX12_copyBlock 36 = .ok (.goto (-34), 3) := by decide +kernel
theorem dX12_copyBlock_39 : decode cX12_copyBlock 39 = .ok (.return_, 1) := by decide +kernel
set_option maxRecDepth 20000 in
theorem ggX12_remember_X12_copyBlock : GoodIn wsX12_remember wsX12_copyBlock := goodIn_r _ [6, 7, 8, 9, 10, 11, 12, 13, 14, 15, 16, 17, 18, 19, 20, 21, 22, 23, 24, 25, 26] rfl (by decide +kernel)
set_option maxRecDepth 20000 in
theorem gX12_remember_X12_copyBlock : GoodIn wsX12_remember (wsV RX12 91 RX12 yX12_copyBlock wsX12_copyBlock) := goodIn_app (goodIn_of _ (by decide +kernel)) ggX12_remember_X12_copyBlock
theorem dX12_remember_0 : decode cX12_remember 0 = .ok (.aload_n 0, 1) := by decide +kernel
theorem dX12_remember_1 : decode cX12_remember 1 = .ok (.getfield 21, 3) := by decide +kernel
theorem dX12_remember_4 : decode cX12_remember 4 = .ok (.bipush 6, 2) := by decide +kernel
theorem dX12_remember_6 : decode cX12_remember 6 = .ok (.if_icmp .ne 35, 3) := by decide +kernel
theorem dX12_remember_9 : decode cX12_remember 9 = .ok (.iconst 1, 1) := by decide +kernel
theorem dX12_remember_10 : decode cX12_remember 10 = .ok (.istore_n 2, 1) := by decide +kernel
theorem dX12_remember_11 : decode cX12_remember 11 = .ok (.iload_n 2, 1) := by decide +kernel
theorem dX12_remember_12 : decode cX12_remember 12 = .ok (.bipush 6, 2) := by decide +kernel
theorem dX12_remember_14 : decode cX12_remember 14 = .ok (.if_icmp .ge 17, 3) := by decide +kernel
theorem dX12_remember_17 : decode cX12_remember 17 = .ok (.aload_n 0, 1) := by decide +kernel
theorem dX12_remember_18 : decode cX12_remember 18 = .ok (.iload_n 2, 1) := by decide +kernel
theorem dX12_remember_19 : decode cX12_remember 19 = .ok (.iconst 1, 1) := by decide +kernel
theorem dX12_remember_20 : decode cX12_remember 20 = .ok (.iadd, 1) := by decide +kernel
theorem dX12_remember_21 : decode cX12_remember 21 = .ok (.iload_n 2, 1) := by decide +kernel
theorem dX12_remember_22 : decode cX12_remember 22 = .ok (.invokevirtual 91, 3) := by decide +kernel
theorem dX12_remember_25 : decode cX12_remember 25 = .ok (.iinc 2 1, 3) := by decide +kernel
theorem dX12_remember_28 : decode cX12_remember 28 = .ok (.goto (-17), 3) := by decide +kernel
theorem dX12_remember_31 : decode cX12_remember 31 = .ok (.aload_n 0, 1) := by decide +kernel
theorem dX12_remember_32 : decode cX12_remember 32 = .ok (.dup, 1) := by decide +kernel
theorem dX12_remember_33 : decode cX12_remember 33 = .ok (.getfield 21, 3) := by decide +kernel
theorem dX12_remember_36 : decode cX12_remember 36 = .ok (.iconst 1, 1) := by decide +kernel
theorem dX12_remember_37 : decode cX12_remember 37 = .ok (.isub, 1) := by decide +kernel
theorem dX12_remember_38 : decode cX12_remember 38 = .ok (.putfield 21, 3) := by decide +kernel
theorem dX12_remember_41 : decode cX12_remember 41 = .ok (.aload_n 0, 1) := by decide +kernel
theorem dX12_remember_42 : decode cX12_remember 42 = .ok (.dup, 1) := by decide +kernel
theorem dX12_remember_43 : decode cX12_remember 43 = .ok (.getfield 21, 3) := by decide +kernel
theorem dX12_remember_46 : decode cX12_remember 46 = .ok (.iconst 1, 1) := by decide +kernel
theorem dX12_remember_47 : decode cX12_remember 47 = .ok (.iadd, 1) := by decide +kernel
theorem dX12_remember_48 : decode cX12_remember 48 = .ok (.putfield 21, 3) := by decide +kernel
theorem dX12_remember_51 : decode cX12_remember 51 = .ok (.aload_n 0, 1) := by decide +kernel
theorem dX12_remember_52 : decode cX12_remember 52 = .ok (.iload_n 1, 1) := by decide +kernel
theorem dX12_remember_53 : decode cX12_remember 53 = .ok (.aload_n 0, 1) := by decide +kernel
theorem dX12_remember_54 : decode cX12_remember 54 = .ok (.getfield 21, 3) := by decide +kernel
theorem dX12_remember_57 : decode cX12_remember 57 = .ok (.invokevirtual 91, 3) := by decide +kernel
theorem dX12_remember_60 : decode cX12_remember 60 = .ok (.return_, 1) := by decide +kernel
set_option maxRecDepth 20000 in
theorem ggX12_isPredecessor_X12_of : GoodIn wsX12_isPredecessor wsX12_of := goodIn_r _ [5, 6, 7, 8, 9, 10, 11, 12, 13, 14, 15, 16, 17, 18, 19, 20, 21, 22, 23, 24, 25] rfl (by decide +kernel)
set_option maxRecDepth 20000 in
theorem gX12_isPredecessor_X12_of : GoodIn wsX12_isPredecessor (wsV RX12 95 RX12 yX12_of wsX12_of) := goodIn_app (goodIn_of _ (by decide +kernel)) ggX12_isPredecessor_X12_of
theorem dX12_isPredecessor_0 : decode cX12_isPredecessor 0 = .ok (.iconst 0, 1) := by decide +kernel
theorem dX12_isPredecessor_1 : decode cX12_isPredecessor 1 = .ok (.istore_n 3, 1) := by decide +kernel
theorem dX12_isPredecessor_2 : decode cX12_isPredecessor 2 = .ok (.iload_n 3, 1) := by decide +kernel
theorem dX12_isPredecessor_3 : decode cX12_isPredecessor 3 = .ok (.aload_n 0, 1) := by decide +kernel
theorem dX12_isPredecessor_4 : decode cX12_isPredecessor 4 = .ok (.iload_n 2, 1) := by decide +kernel
theorem dX12_isPredecessor_5 : decode cX12_isPredecessor 5 = .ok (.bipush 12, 2) := by decide +kernel
theorem dX12_isPredecessor_7 : decode cX12_isPredecessor 7 = .ok (.invokevirtual 95, 3) := by decide +kernel
theorem dX12_isPredecessor_10 : decode cX12_isPredecessor 10 = .ok (.if_icmp .ge 24, 3) := by decide +kernel
theorem dX12_isPredecessor_13 : decode cX12_isPredecessor 13 = .ok (.aload_n 0, 1) := by decide +kernel
theorem dX12_isPredecessor_14 : decode cX12_isPredecessor 14 = .ok (.iload_n 2, 1) := by decide +kernel
theorem dX12_isPredecessor_15 : decode cX12_isPredecessor 15 = .ok (.bipush 13, 2) := by decide +kernel
theorem dX12_isPredecessor_17 : decode cX12_isPredecessor 17 = .ok (.iload_n 3, 1) := by decide +kernel
theorem dX12_isPredecessor_18 : decode cX12_isPredecessor 18 = .ok (.iadd, 1) := by decide +kernel
theorem dX12_isPredecessor_19 : decode cX12_isPredecessor 19 = .ok (.invokevirtual 95, 3) := by decide +kernel
theorem dX12_isPredecessor_22 : decode cX12_isPredecessor 22 = .ok (.iload_n 1, 1) := by decide +kernel
theorem dX12_isPredecessor_23 : decode cX12_isPredecessor 23 = .ok (.if_icmp .ne 5, 3) := by decide +kernel
theorem dX12_isPredecessor_26 : decode cX12_isPredecessor 26 = .ok (.iconst 1, 1) := by decide +kernel
theorem dX12_isPredecessor_27 : decode cX12_isPredecessor 27 = .ok (.ireturn, 1) := by decide +kernel
theorem dX12_isPredecessor_28 : decode cX12_isPredecessor 28 = .ok (.iinc 3 1, 3) := by decide +kernel
theorem dX12_isPredecessor_31 : decode cX12_isPredecessor 31 = .ok (.goto (-29), 3) := by decide +kernel
theorem dX12_isPredecessor_34 : decode cX12_isPredecessor 34 = .ok (.iconst 0, 1) := by decide +kernel
theorem dX12_isPredecessor_35 : decode cX12_isPredecessor 35 = .ok (.ireturn, 1) := by decide +kernel
set_option maxRecDepth 20000 in
theorem ggX12_successors_X12_isPredecessor : GoodIn wsX12_successors wsX12_isPredecessor := goodIn_r _ [6, 7, 8, 9, 5, 10, 1, 11, 12, 13, 14, 15, 16, 17, 18, 19, 20, 21, 22, 23, 24, 25, 26, 27, 28, 29] rfl (by decide +kernel)
set_option maxRecDepth 20000 in
theorem gX12_successors_X12_isPredecessor : GoodIn wsX12_successors (wsV RX12 99 RX12 yX12_isPredecessor wsX12_isPredecessor) := goodIn_app (goodIn_of _ (by decide +kernel)) ggX12_successors_X12_isPredecessor
theorem dX12_successors_0 : decode cX12_successors 0 = .ok (.iconst 0, 1) := by decide +kernel
theorem dX12_successors_1 : decode cX12_successors 1 = .ok (.istore_n 2, 1) := by decide +kernel
theorem dX12_successors_2 : decode cX12_successors 2 = .ok (.iload_n 1, 1) := by decide +kernel
theorem dX12_successors_3 : decode cX12_successors 3 = .ok (.iconst 1, 1) := by decide +kernel
theorem dX12_successors_4 : decode cX12_successors 4 = .ok (.iadd, 1) := by decide +kernel
theorem dX12_successors_5 : decode cX12_successors 5 = .ok (.istore_n 3, 1) := by decide +kernel
theorem dX12_successors_6 : decode cX12_successors 6 = .ok (.iload_n 3, 1) := by decide +kernel
theorem dX12_successors_7 : decode cX12_successors 7 = .ok (.aload_n 0, 1) := by decide +kernel
theorem dX12_successors_8 : decode cX12_successors 8 = .ok (.getfield 13, 3) := by decide +kernel
theorem dX12_successors_11 : decode cX12_successors 11 = .ok (.bipush 13, 2) := by decide +kernel
theorem dX12_successors_13 : decode cX12_successors 13 = .ok (.iaload, 1) := by decide +kernel
theorem dX12_successors_14 : decode cX12_successors 14 = .ok (.if_icmp .ge 26, 3) := by decide +kernel
theorem dX12_successors_17 : decode cX12_successors 17 = .ok (.iload_n 2, 1) := by decide +kernel
theorem dX12_successors_18 : decode cX12_successors 18 = .ok (.aload_n 0, 1) := by decide +kernel
theorem dX12_successors_19 : decode cX12_successors 19 = .ok (.iload_n 1, 1) := by decide +kernel
theorem dX12_successors_20 : decode cX12_successors 20 = .ok (.iload_n 3, 1) := by decide +kernel
theorem dX12_successors_21 : decode cX12_successors 21 = .ok (.invokevirtual 99, 3) := by decide +kernel
theorem dX12_successors_24 : decode cX12_successors 24 = .ok (.ifCond .eq 7, 3) := by decide +kernel
theorem dX12_successors_27 : decode cX12_successors 27 = .ok (.iconst 1, 1) := by decide +kernel
theorem dX12_successors_28 : decode cX12_successors 28 = .ok (.goto 4, 3) := by decide +kernel
theorem dX12_successors_31 : decode cX12_successors 31 = .ok (.iconst 0, 1) := by decide +kernel
theorem dX12_successors_32 : decode cX12_successors 32 = .ok (.iadd, 1) := by decide +kernel
theorem dX12_successors_33 : decode cX12_successors 33 = .ok (.istore_n 2, 1) := by decide +kernel
theorem dX12_successors_34 : decode cX12_successors 34 = .ok (.iinc 3 1, 3) := by decide +kernel
theorem dX12_successors_37 : decode cX12_successors 37 = .ok (.goto (-31), 3) := by decide +kernel
theorem dX12_successors_40 : decode cX12_successors 40 = .ok (.iload_n 2, 1) := by decide +kernel
theorem dX12_successors_41 : decode cX12_successors 41 = .ok (.ireturn, 1) := by decide +kernel
set_option maxRecDepth 20000 in
theorem ggX12_hasSuccessor_X12_isPredecessor : GoodIn wsX12_hasSuccessor wsX12_isPredecessor := goodIn_r _ [6, 7, 8, 9, 5, 10, 1, 11, 12, 13, 14, 15, 16, 17, 18, 19, 20, 21, 22, 23, 24, 25, 26, 27, 28, 29] rfl (by decide +kernel)
set_option maxRecDepth 20000 in
theorem gX12_hasSuccessor_X12_isPredecessor : GoodIn wsX12_hasSuccessor (wsV RX12 99 RX12 yX12_isPredecessor wsX12_isPredecessor) := goodIn_app (goodIn_of _ (by decide +kernel)) ggX12_hasSuccessor_X12_isPredecessor
set_option maxRecDepth 20000 in
theorem ggX12_hasSuccessor_X12_of : GoodIn wsX12_hasSuccessor wsX12_of := goodIn_r _ [10, 1, 11, 12, 13, 14, 15, 16, 17, 18, 19, 20, 21, 22, 23, 24, 25, 26, 27, 28, 29] rfl (by decide +kernel)
set_option maxRecDepth 20000 in
theorem gX12_hasSuccessor_X12_of : GoodIn wsX12_hasSuccessor (wsV RX12 95 RX12 yX12_of wsX12_of) := goodIn_app (goodIn_of _ (by decide +kernel)) ggX12_hasSuccessor_X12_of
theorem dX12_hasSuccessor_0 : decode cX12_hasSuccessor 0 = .ok (.iload_n 1, 1) := by decide +kernel
theorem dX12_hasSuccessor_1 : decode cX12_hasSuccessor 1 = .ok (.iconst 1, 1) := by decide +kernel
theorem dX12_hasSuccessor_2 : decode cX12_hasSuccessor 2 = .ok (.iadd, 1) := by decide +kernel
theorem dX12_hasSuccessor_3 : decode cX12_hasSuccessor 3 = .ok (.istore 4, 2) := by decide +kernel
theorem dX12_hasSuccessor_5 : decode cX12_hasSuccessor 5 = .ok (.iload 4, 2) := by decide +kernel
theorem dX12_hasSuccessor_7 : decode cX12_hasSuccessor 7 = .ok (.aload_n 0, 1) := by decide +kernel
theorem dX12_hasSuccessor_8 : decode cX12_hasSuccessor 8 = .ok (.getfield 13, 3) := by decide +kernel
theorem dX12_hasSuccessor_11 : decode cX12_hasSuccessor 11 = .ok (.bipush 13, 2) := by decide +kernel
theorem dX12_hasSuccessor_13 : decode cX12_hasSuccessor 13 = .ok (.iaload, 1) := by decide +kernel
theorem dX12_hasSuccessor_14 : decode cX12_hasSuccessor 14 = .ok (.if_icmp .ge 45, 3) := by decide +kernel
theorem dX12_hasSuccessor_17 : decode cX12_hasSuccessor 17 = .ok (.aload_n 0, 1) := by decide +kernel
theorem dX12_hasSuccessor_18 : decode cX12_hasSuccessor 18 = .ok (.iload_n 1, 1) := by decide +kernel
theorem dX12_hasSuccessor_19 : decode cX12_hasSuccessor 19 = .ok (.iload 4, 2) := by decide +kernel
theorem dX12_hasSuccessor_21 : decode cX12_hasSuccessor 21 = .ok (.invokevirtual 99, 3) := by decide +kernel
theorem dX12_hasSuccessor_24 : decode cX12_hasSuccessor 24 = .ok (.ifCond .eq 29, 3) := by decide +kernel
theorem dX12_hasSuccessor_27 : decode cX12_hasSuccessor 27 = .ok (.aload_n 0, 1) := by decide +kernel
theorem dX12_hasSuccessor_28 : decode cX12_hasSuccessor 28 = .ok (.iload 4, 2) := by decide +kernel
theorem dX12_hasSuccessor_30 : decode cX12_hasSuccessor 30 = .ok (.bipush 17, 2) := by decide +kernel
theorem dX12_hasSuccessor_32 : decode cX12_hasSuccessor 32 = .ok (.invokevirtual 95, 3) := by decide +kernel
theorem dX12_hasSuccessor_35 : decode cX12_hasSuccessor 35 = .ok (.iload_n 2, 1) := by decide +kernel
theorem dX12_hasSuccessor_36 : decode cX12_hasSuccessor 36 = .ok (.if_icmp .eq 15, 3) := by decide +kernel
theorem dX12_hasSuccessor_39 : decode cX12_hasSuccessor 39 = .ok (.aload_n 0, 1) := by decide +kernel
theorem dX12_hasSuccessor_40 : decode cX12_hasSuccessor 40 = .ok (.iload 4, 2) := by decide +kernel
theorem dX12_hasSuccessor_42 : decode cX12_hasSuccessor 42 = .ok (.bipush 17, 2) := by decide +kernel
theorem dX12_hasSuccessor_44 : decode cX12_hasSuccessor 44 = .ok (.invokevirtual 95, 3) := by decide +kernel
theorem dX12_hasSuccessor_47 : decode cX12_hasSuccessor 47 = .ok (.iload_n 3, 1) := by decide +kernel
theorem dX12_hasSuccessor_48 : decode cX12_hasSuccessor 48 = .ok (.if_icmp .ne 5, 3) := by decide +kernel
theorem dX12_hasSuccessor_51 : decode cX12_hasSuccessor 51 = .ok (.iconst 1, 1) := by decide +kernel
theorem dX12_hasSuccessor_52 : decode cX12_hasSuccessor 52 = .ok (.ireturn, 1) := by decide +kernel
theorem dX12_hasSuccessor_53 : decode cX12_hasSuccessor 53 = .ok (.iinc 4 1, 3) := by decide +kernel
theorem dX12_hasSuccessor_56 : decode cX12_hasSuccessor 56 = .ok (.goto (-51), 3) := by decide +kernel
theorem dX12_hasSuccessor_59 : decode cX12_hasSuccessor 59 = .ok (.iconst 0, 1) := by decide +kernel
theorem dX12_hasSuccessor_60 : decode cX12_hasSuccessor 60 = .ok (.ireturn, 1) := by decide +kernel
set_option maxRecDepth 20000 in
theorem ggX12_computePaths_X12_isPredecessor : GoodIn wsX12_computePaths wsX12_isPredecessor := goodIn_r _ [7, 8, 9, 10, 6, 11, 1, 12, 13, 14, 15, 16, 17, 18, 19, 20, 21, 22, 23, 24, 25, 26, 27, 28, 29, 30] rfl (by decide +kernel)
set_option maxRecDepth 20000 in
theorem gX12_computePaths_X12_isPredecessor : GoodIn wsX12_computePaths (wsV RX12 99 RX12 yX12_isPredecessor wsX12_isPredecessor) := goodIn_app (goodIn_of _ (by decide +kernel)) ggX12_computePaths_X12_isPredecessor
set_option maxRecDepth 20000 in
theorem ggX12_computePaths_X12_of : GoodIn wsX12_computePaths wsX12_of := goodIn_r _ [11, 1, 12, 13, 14, 15, 16, 17, 18, 19, 20, 21, 22, 23, 24, 25, 26, 27, 28, 29, 30] rfl (by decide +kernel)
set_option maxRecDepth 20000 in
theorem gX12_computePaths_X12_of : GoodIn wsX12_computePaths (wsV RX12 95 RX12 yX12_of wsX12_of) := goodIn_app (goodIn_of _ (by decide +kernel)) ggX12_computePaths_X12_of
theorem dX12_computePaths_0 : decode cX12_computePaths 0 = .ok (.aload_n 0, 1) := by decide +kernel
theorem dX12_computePaths_1 : decode cX12_computePaths 1 = .ok (.getfield 13, 3) := by decide +kernel
theorem dX12_computePaths_4 : decode cX12_computePaths 4 = .ok (.bipush 13, 2) := by decide +kernel
theorem dX12_computePaths_6 : decode cX12_computePaths 6 = .ok (.iaload, 1) := by decide +kernel
theorem dX12_computePaths_7 : decode cX12_computePaths 7 = .ok (.iconst 1, 1) := by decide +kernel
theorem dX12_computePaths_8 : decode cX12_computePaths 8 = .ok (.isub, 1) := by decide +kernel
theorem dX12_computePaths_9 : decode cX12_computePaths 9 = .ok (.istore_n 1, 1) := by decide +kernel
theorem dX12_computePaths_10 : decode cX12_computePaths 10 = .ok (.iload_n 1, 1) := by decide +kernel
theorem dX12_computePaths_11 : decode cX12_computePaths 11 = .ok (.ifCond .lt 73, 3) := by decide +kernel
theorem dX12_computePaths_14 : decode cX12_computePaths 14 = .ok (.iconst 0, 1) := by decide +kernel
theorem dX12_computePaths_15 : decode cX12_computePaths 15 = .ok (.istore_n 2, 1) := by decide +kernel
theorem dX12_computePaths_16 : decode cX12_computePaths 16 = .ok (.iload_n 1, 1) := by decide +kernel
theorem dX12_computePaths_17 : decode cX12_computePaths 17 = .ok (.iconst 1, 1) := by decide +kernel
theorem dX12_computePaths_18 : decode cX12_computePaths 18 = .ok (.iadd, 1) := by decide +kernel
theorem dX12_computePaths_19 : decode cX12_computePaths 19 = .ok (.istore_n 3, 1) := by decide +kernel
theorem dX12_computePaths_20 : decode cX12_computePaths 20 = .ok (.iload_n 3, 1) := by decide +kernel
theorem dX12_computePaths_21 : decode cX12_computePaths 21 = .ok (.aload_n 0, 1) := by decide +kernel
theorem dX12_computePaths_22 : decode cX12_computePaths 22 = .ok (.getfield 13, 3) := by decide +kernel
theorem dX12_computePaths_25 : decode cX12_computePaths 25 = .ok (.bipush 13, 2) := by decide +kernel
theorem dX12_computePaths_27 : decode cX12_computePaths 27 = .ok (.iaload, 1) := by decide +kernel
theorem dX12_computePaths_28 : decode cX12_computePaths 28 = .ok (.if_icmp .ge 35, 3) := by decide +kernel
theorem dX12_computePaths_31 : decode cX12_computePaths 31 = .ok (.aload_n 0, 1) := by decide +kernel
theorem dX12_computePaths_32 : decode cX12_computePaths 32 = .ok (.iload_n 1, 1) := by decide +kernel
theorem dX12_computePaths_33 : decode cX12_computePaths 33 = .ok (.iload_n 3, 1) := by decide +kernel
theorem dX12_computePaths_34 : decode cX12_computePaths 34 = .ok (.invokevirtual 99, 3) := by decide +kernel
theorem dX12_computePaths_37 : decode cX12_computePaths 37 = .ok (.ifCond .eq 20, 3) := by decide +kernel
theorem dX12_computePaths_40 : decode cX12_computePaths 40 = .ok (.aload_n 0, 1) := by decide +kernel
theorem dX12_computePaths_41 : decode cX12_computePaths 41 = .ok (.getfield 42, 3) := by decide +kernel
theorem dX12_computePaths_44 : decode cX12_computePaths 44 = .ok (.iload_n 3, 1) := by decide +kernel
theorem dX12_computePaths_45 : decode cX12_computePaths 45 = .ok (.iaload, 1) := by decide +kernel
theorem dX12_computePaths_46 : decode cX12_computePaths 46 = .ok (.iload_n 2, 1) := by decide +kernel
theorem dX12_computePaths_47 : decode cX12_computePaths 47 = .ok (.if_icmp .le 10, 3) := by decide +kernel
theorem dX12_computePaths_50 : decode cX12_computePaths 50 = .ok (.aload_n 0, 1) := by decide +kernel
theorem dX12_computePaths_51 : decode cX12_computePaths 51 = .ok (.getfield 42, 3) := by decide +kernel
theorem dX12_computePaths_54 : decode cX12_computePaths 54 = .ok (.iload_n 3, 1) := by decide +kernel
theorem dX12_computePaths_55 : decode cX12_computePaths 55 = .ok (.iaload, 1) := by decide +kernel
theorem dX12_computePaths_56 : decode cX12_computePaths 56 = .ok (.istore_n 2, 1) := by decide +kernel
theorem dX12_computePaths_57 : decode cX12_computePaths 57 = .ok (.iinc 3 1, 3) := by decide +kernel
theorem dX12_computePaths_60 : decode cX12_computePaths 60 = .ok (.goto (-40), 3) := by decide +kernel
theorem dX12_computePaths_63 : decode cX12_computePaths 63 = .ok (.aload_n 0, 1) := by decide +kernel
theorem dX12_computePaths_64 : decode cX12_computePaths 64 = .ok (.getfield 42, 3) := by decide +kernel
theorem dX12_computePaths_67 : decode cX12_computePaths 67 = .ok (.iload_n 1, 1) := by decide +kernel
theorem dX12_computePaths_68 : decode cX12_computePaths 68 = .ok (.aload_n 0, 1) := by decide +kernel
theorem dX12_computePaths_69 : decode cX12_computePaths 69 = .ok (.iload_n 1, 1) := by decide +kernel
theorem dX12_computePaths_70 : decode cX12_computePaths 70 = .ok (.bipush 7, 2) := by decide +kernel
theorem dX12_computePaths_72 : decode cX12_computePaths 72 = .ok (.invokevirtual 95, 3) := by decide +kernel
theorem dX12_computePaths_75 : decode cX12_computePaths 75 = .ok (.iload_n 2, 1) := by decide +kernel
theorem dX12_computePaths_76 : decode cX12_computePaths 76 = .ok (.iadd, 1) := by decide +kernel
theorem dX12_computePaths_77 : decode cX12_computePaths 77 = .ok (.iastore, 1) := by decide +kernel
theorem dX12_computePaths_78 : decode cX12_computePaths 78 = .ok (.iinc 1 (-1), 3) := by decide +kernel
theorem dX12_computePaths_81 : decode cX12_computePaths 81 = .ok (.goto (-71), 3) := by decide +kernel
theorem dX12_computePaths_84 : decode cX12_computePaths 84 = .ok (.return_, 1) := by decide +kernel
set_option maxRecDepth 20000 in
theorem ggX12_computeHeads_X12_of : GoodIn wsX12_computeHeads wsX12_of := goodIn_r _ [7, 1, 8, 9, 10, 11, 12, 13, 14, 15, 16, 17, 18, 19, 20, 21, 22, 23, 24, 25, 26] rfl (by decide +kernel)
set_option maxRecDepth 20000 in
theorem gX12_computeHeads_X12_of : GoodIn wsX12_computeHeads (wsV RX12 95 RX12 yX12_of wsX12_of) := goodIn_app (goodIn_of _ (by decide +kernel)) ggX12_computeHeads_X12_of
theorem dX12_computeHeads_0 : decode cX12_computeHeads 0 = .ok (.iconst 0, 1) := by decide +kernel
theorem dX12_computeHeads_1 : decode cX12_computeHeads 1 = .ok (.istore_n 1, 1) := by decide +kernel
theorem dX12_computeHeads_2 : decode cX12_computeHeads 2 = .ok (.iload_n 1, 1) := by decide +kernel
theorem dX12_computeHeads_3 : decode cX12_computeHeads 3 = .ok (.aload_n 0, 1) := by decide +kernel
theorem dX12_computeHeads_4 : decode cX12_computeHeads 4 = .ok (.getfield 13, 3) := by decide +kernel
theorem dX12_computeHeads_7 : decode cX12_computeHeads 7 = .ok (.bipush 13, 2) := by decide +kernel
theorem dX12_computeHeads_9 : decode cX12_computeHeads 9 = .ok (.iaload, 1) := by decide +kernel
theorem dX12_computeHeads_10 : decode cX12_computeHeads 10 = .ok (.if_icmp .ge 88, 3) := by decide +kernel
theorem dX12_computeHeads_13 : decode cX12_computeHeads 13 = .ok (.aload_n 0, 1) := by decide +kernel
theorem dX12_computeHeads_14 : decode cX12_computeHeads 14 = .ok (.getfield 45, 3) := by decide +kernel
theorem dX12_computeHeads_17 : decode cX12_computeHeads 17 = .ok (.iload_n 1, 1) := by decide +kernel
theorem dX12_computeHeads_18 : decode cX12_computeHeads 18 = .ok (.iconst 0, 1) := by decide +kernel
theorem dX12_computeHeads_19 : decode cX12_computeHeads 19 = .ok (.iastore, 1) := by decide +kernel
theorem dX12_computeHeads_20 : decode cX12_computeHeads 20 = .ok (.iconst 0, 1) := by decide +kernel
theorem dX12_computeHeads_21 : decode cX12_computeHeads 21 = .ok (.istore_n 2, 1) := by decide +kernel
theorem dX12_computeHeads_22 : decode cX12_computeHeads 22 = .ok (.iload_n 2, 1) := by decide +kernel
theorem dX12_computeHeads_23 : decode cX12_computeHeads 23 = .ok (.aload_n 0, 1) := by decide +kernel
theorem dX12_computeHeads_24 : decode cX12_computeHeads 24 = .ok (.iload_n 1, 1) := by decide +kernel
theorem dX12_computeHeads_25 : decode cX12_computeHeads 25 = .ok (.bipush 12, 2) := by decide +kernel
theorem dX12_computeHeads_27 : decode cX12_computeHeads 27 = .ok (.invokevirtual 95, 3) := by decide +kernel
theorem dX12_computeHeads_30 : decode cX12_computeHeads 30 = .ok (.if_icmp .ge 62, 3) := by decide +kernel
theorem dX12_computeHeads_33 : decode cX12_computeHeads 33 = .ok (.aload_n 0, 1) := by decide +kernel
theorem dX12_computeHeads_34 : decode cX12_computeHeads 34 = .ok (.iload_n 1, 1) := by decide +kernel
theorem dX12_computeHeads_35 : decode cX12_computeHeads 35 = .ok (.bipush 13, 2) := by decide +kernel
theorem dX12_computeHeads_37 : decode cX12_computeHeads 37 = .ok (.iload_n 2, 1) := by decide +kernel
theorem dX12_computeHeads_38 : decode cX12_computeHeads 38 = .ok (.iadd, 1) := by decide +kernel
theorem dX12_computeHeads_39 : decode cX12_computeHeads 39 = .ok (.invokevirtual 95, 3) := by decide +kernel
theorem dX12_computeHeads_42 : decode cX12_computeHeads 42 = .ok (.istore_n 3, 1) := by decide +kernel
theorem dX12_computeHeads_43 : decode cX12_computeHeads 43 = .ok (.aload_n 0, 1) := by decide +kernel
theorem dX12_computeHeads_44 : decode cX12_computeHeads 44 = .ok (.getfield 45, 3) := by decide +kernel
theorem dX12_computeHeads_47 : decode cX12_computeHeads 47 = .ok (.iload_n 3, 1) := by decide +kernel
theorem dX12_computeHeads_48 : decode cX12_computeHeads 48 = .ok (.iaload, 1) := by decide +kernel
theorem dX12_computeHeads_49 : decode cX12_computeHeads 49 = .ok (.aload_n 0, 1) := by decide +kernel
theorem dX12_computeHeads_50 : decode cX12_computeHeads 50 = .ok (.iload_n 3, 1) := by decide +kernel
theorem dX12_computeHeads_51 : decode cX12_computeHeads 51 = .ok (.bipush 7, 2) := by decide +kernel
theorem dX12_computeHeads_53 : decode cX12_computeHeads 53 = .ok (.invokevirtual 95, 3) := by decide +kernel
theorem dX12_computeHeads_56 : decode cX12_computeHeads 56 = .ok (.iadd, 1) := by decide +kernel
theorem dX12_computeHeads_57 : decode cX12_computeHeads 57 = .ok (.aload_n 0, 1) := by decide +kernel
theorem dX12_computeHeads_58 : decode cX12_computeHeads 58 = .ok (.getfield 45, 3) := by decide +kernel
theorem dX12_computeHeads_61 : decode cX12_computeHeads 61 = .ok (.iload_n 1, 1) := by decide +kernel
theorem dX12_computeHeads_62 : decode cX12_computeHeads 62 = .ok (.iaload, 1) := by decide +kernel
theorem dX12_computeHeads_63 : decode cX12_computeHeads 63 = .ok (.if_icmp .le 23, 3) := by decide +kernel
theorem dX12_computeHeads_66 : decode cX12_computeHeads 66 = .ok (.aload_n 0, 1) := by decide +kernel
theorem dX12_computeHeads_67 : decode cX12_computeHeads 67 = .ok (.getfield 45, 3) := by decide +kernel
theorem dX12_computeHeads_70 : decode cX12_computeHeads 70 = .ok (.iload_n 1, 1) := by decide +kernel
theorem dX12_computeHeads_71 : decode cX12_computeHeads 71 = .ok (.aload_n 0, 1) := by decide +kernel
theorem dX12_computeHeads_72 : decode cX12_computeHeads 72 = .ok (.getfield 45, 3) := by decide +kernel
theorem dX12_computeHeads_75 : decode cX12_computeHeads 75 = .ok (.iload_n 3, 1) := by decide +kernel
theorem dX12_computeHeads_76 : decode cX12_computeHeads 76 = .ok (.iaload, 1) := by decide +kernel
theorem dX12_computeHeads_77 : decode cX12_computeHeads 77 = .ok (.aload_n 0, 1) := by decide +kernel
theorem dX12_computeHeads_78 : decode cX12_computeHeads 78 = .ok (.iload_n 3, 1) := by decide +kernel
theorem dX12_computeHeads_79 : decode cX12_computeHeads 79 = .ok (.bipush 7, 2) := by decide +kernel
theorem dX12_computeHeads_81 : decode cX12_computeHeads 81 = .ok (.invokevirtual 95, 3) := by decide +kernel
theorem dX12_computeHeads_84 : decode cX12_computeHeads 84 = .ok (.iadd, 1) := by decide +kernel
theorem dX12_computeHeads_85 : decode cX12_computeHeads 85 = .ok (.iastore, 1) := by decide +kernel
theorem dX12_computeHeads_86 : decode cX12_computeHeads 86 = .ok (.iinc 2 1, 3) := by decide +kernel
theorem dX12_computeHeads_89 : decode cX12_computeHeads 89 = .ok (.goto (-67), 3) := by decide +kernel
theorem dX12_computeHeads_92 : decode cX12_computeHeads 92 = .ok (.iinc 1 1, 3) := by decide +kernel
theorem dX12_computeHeads_95 : decode cX12_computeHeads 95 = .ok (.goto (-93), 3) := by decide +kernel
theorem dX12_computeHeads_98 : decode cX12_computeHeads 98 = .ok (.return_, 1) := by decide +kernel
theorem dX12_longestPath_0 : decode cX12_longestPath 0 = .ok (.iconst 0, 1) := by decide +kernel
theorem dX12_longestPath_1 : decode cX12_longestPath 1 = .ok (.istore_n 1, 1) := by decide +kernel
theorem dX12_longestPath_2 : decode cX12_longestPath 2 = .ok (.iconst 0, 1) := by decide +kernel
theorem dX12_longestPath_3 : decode cX12_longestPath 3 = .ok (.istore_n 2, 1) := by decide +kernel
theorem dX12_longestPath_4 : decode cX12_longestPath 4 = .ok (.iload_n 2, 1) := by decide +kernel
theorem dX12_longestPath_5 : decode cX12_longestPath 5 = .ok (.aload_n 0, 1) := by decide +kernel
theorem dX12_longestPath_6 : decode cX12_longestPath 6 = .ok (.getfield 13, 3) := by decide +kernel
theorem dX12_longestPath_9 : decode cX12_longestPath 9 = .ok (.bipush 13, 2) := by decide +kernel
theorem dX12_longestPath_11 : decode cX12_longestPath 11 = .ok (.iaload, 1) := by decide +kernel
theorem dX12_longestPath_12 : decode cX12_longestPath 12 = .ok (.if_icmp .ge 30, 3) := by decide +kernel
theorem dX12_longestPath_15 : decode cX12_longestPath 15 = .ok (.aload_n 0, 1) := by decide +kernel
theorem dX12_longestPath_16 : decode cX12_longestPath 16 = .ok (.getfield 42, 3) := by decide +kernel
theorem dX12_longestPath_19 : decode cX12_longestPath 19 = .ok (.iload_n 2, 1) := by decide +kernel
theorem dX12_longestPath_20 : decode cX12_longestPath 20 = .ok (.iaload, 1) := by decide +kernel
theorem dX12_longestPath_21 : decode cX12_longestPath 21 = .ok (.iload_n 1, 1) := by decide +kernel
theorem dX12_longestPath_22 : decode cX12_longestPath 22 = .ok (.if_icmp .le 12, 3) := by decide +kernel
theorem dX12_longestPath_25 : decode cX12_longestPath 25 = .ok (.aload_n 0, 1) := by decide +kernel
theorem dX12_longestPath_26 : decode cX12_longestPath 26 = .ok (.getfield 42, 3) := by decide +kernel
theorem dX12_longestPath_29 : decode cX12_longestPath 29 = .ok (.iload_n 2, 1) := by decide +kernel
theorem dX12_longestPath_30 : decode cX12_longestPath 30 = .ok (.iaload, 1) := by decide +kernel
theorem dX12_longestPath_31 : decode cX12_longestPath 31 = .ok (.goto 4, 3) := by decide +kernel
theorem dX12_longestPath_34 : decode cX12_longestPath 34 = .ok (.iload_n 1, 1) := by decide +kernel
theorem dX12_longestPath_35 : decode cX12_longestPath 35 = .ok (.istore_n 1, 1) := by decide +kernel
theorem dX12_longestPath_36 : decode cX12_longestPath 36 = .ok (.iinc 2 1, 3) := by decide +kernel
theorem dX12_longestPath_39 : decode cX12_longestPath 39 = .ok (.goto (-35), 3) := by decide +kernel
theorem dX12_longestPath_42 : decode cX12_longestPath 42 = .ok (.iload_n 1, 1) := by decide +kernel
theorem dX12_longestPath_43 : decode cX12_longestPath 43 = .ok (.ireturn, 1) := by decide +kernel
set_option maxRecDepth 20000 in
theorem ggX12_isTaken_X12_of : GoodIn wsX12_isTaken wsX12_of := goodIn_r _ [5, 6, 15, 16, 17, 18, 19, 20, 21, 22, 23, 24, 25, 26, 27, 28, 29, 30, 31, 32, 33] rfl (by decide +kernel)
set_option maxRecDepth 20000 in
theorem gX12_isTaken_X12_of : GoodIn wsX12_isTaken (wsV RX12 95 RX12 yX12_of wsX12_of) := goodIn_app (goodIn_of _ (by decide +kernel)) ggX12_isTaken_X12_of
set_option maxRecDepth 20000 in
theorem ggX12_isTaken_X12_hasSuccessor : GoodIn wsX12_isTaken wsX12_hasSuccessor := goodIn_r _ [10, 6, 11, 12, 13, 4, 14, 1, 2, 3, 5, 15, 16, 17, 18, 19, 20, 21, 22, 23, 24, 25, 26, 27, 28, 29, 30, 31, 32, 33] rfl (by decide +kernel)
set_option maxRecDepth 20000 in
theorem gX12_isTaken_X12_hasSuccessor : GoodIn wsX12_isTaken (wsV RX12 103 RX12 yX12_hasSuccessor wsX12_hasSuccessor) := goodIn_app (goodIn_of _ (by decide +kernel)) ggX12_isTaken_X12_hasSuccessor
theorem dX12_isTaken_0 : decode cX12_isTaken 0 = .ok (.aload_n 0, 1) := by decide +kernel
theorem dX12_isTaken_1 : decode cX12_isTaken 1 = .ok (.iload_n 1, 1) := by decide +kernel
theorem dX12_isTaken_2 : decode cX12_isTaken 2 = .ok (.bipush 17, 2) := by decide +kernel
theorem dX12_isTaken_4 : decode cX12_isTaken 4 = .ok (.invokevirtual 95, 3) := by decide +kernel
theorem dX12_isTaken_7 : decode cX12_isTaken 7 = .ok (.iconst 2, 1) := by decide +kernel
theorem dX12_isTaken_8 : decode cX12_isTaken 8 = .ok (.if_icmp .ne 17, 3) := by decide +kernel
theorem dX12_isTaken_11 : decode cX12_isTaken 11 = .ok (.aload_n 0, 1) := by decide +kernel
theorem dX12_isTaken_12 : decode cX12_isTaken 12 = .ok (.iload_n 1, 1) := by decide +kernel
theorem dX12_isTaken_13 : decode cX12_isTaken 13 = .ok (.iconst 1, 1) := by decide +kernel
theorem dX12_isTaken_14 : decode cX12_isTaken 14 = .ok (.iconst 2, 1) := by decide +kernel
theorem dX12_isTaken_15 : decode cX12_isTaken 15 = .ok (.invokevirtual 103, 3) := by decide +kernel
theorem dX12_isTaken_18 : decode cX12_isTaken 18 = .ok (.ifCond .eq 7, 3) := by decide +kernel
theorem dX12_isTaken_21 : decode cX12_isTaken 21 = .ok (.iconst 1, 1) := by decide +kernel
theorem dX12_isTaken_22 : decode cX12_isTaken 22 = .ok (.goto 4, 3) := by decide +kernel
theorem dX12_isTaken_25 : decode cX12_isTaken 25 = .ok (.iconst 0, 1) := by decide +kernel
theorem dX12_isTaken_26 : decode cX12_isTaken 26 = .ok (.ireturn, 1) := by decide +kernel
set_option maxRecDepth 20000 in
theorem ggX12_isReady_X12_of : GoodIn wsX12_isReady wsX12_of := goodIn_r _ [5, 6, 11, 12, 13, 14, 15, 16, 17, 18, 19, 20, 21, 22, 23, 24, 25, 26, 27, 28, 29] rfl (by decide +kernel)
set_option maxRecDepth 20000 in
theorem gX12_isReady_X12_of : GoodIn wsX12_isReady (wsV RX12 95 RX12 yX12_of wsX12_of) := goodIn_app (goodIn_of _ (by decide +kernel)) ggX12_isReady_X12_of
set_option maxRecDepth 20000 in
theorem ggX12_isReady_X12_firstOpen : GoodIn wsX12_isReady wsX12_firstOpen := goodIn_r _ [10, 1, 2, 3, 4, 5, 6, 11, 12, 13, 14, 15, 16, 17, 18, 19, 20, 21, 22, 23, 24, 25, 26, 27, 28, 29] rfl (by decide +kernel)
set_option maxRecDepth 20000 in
theorem gX12_isReady_X12_firstOpen : GoodIn wsX12_isReady (wsV RX12 106 RX12 yX12_firstOpen wsX12_firstOpen) := goodIn_app (goodIn_of _ (by decide +kernel)) ggX12_isReady_X12_firstOpen
theorem dX12_isReady_0 : decode cX12_isReady 0 = .ok (.aload_n 0, 1) := by decide +kernel
theorem dX12_isReady_1 : decode cX12_isReady 1 = .ok (.iload_n 1, 1) := by decide +kernel
theorem dX12_isReady_2 : decode cX12_isReady 2 = .ok (.bipush 17, 2) := by decide +kernel
theorem dX12_isReady_4 : decode cX12_isReady 4 = .ok (.invokevirtual 95, 3) := by decide +kernel
theorem dX12_isReady_7 : decode cX12_isReady 7 = .ok (.iconst 1, 1) := by decide +kernel
theorem dX12_isReady_8 : decode cX12_isReady 8 = .ok (.if_icmp .eq 27, 3) := by decide +kernel
theorem dX12_isReady_11 : decode cX12_isReady 11 = .ok (.aload_n 0, 1) := by decide +kernel
theorem dX12_isReady_12 : decode cX12_isReady 12 = .ok (.iload_n 1, 1) := by decide +kernel
theorem dX12_isReady_13 : decode cX12_isReady 13 = .ok (.bipush 17, 2) := by decide +kernel
theorem dX12_isReady_15 : decode cX12_isReady 15 = .ok (.invokevirtual 95, 3) := by decide +kernel
theorem dX12_isReady_18 : decode cX12_isReady 18 = .ok (.iconst 2, 1) := by decide +kernel
theorem dX12_isReady_19 : decode cX12_isReady 19 = .ok (.if_icmp .eq 16, 3) := by decide +kernel
theorem dX12_isReady_22 : decode cX12_isReady 22 = .ok (.aload_n 0, 1) := by decide +kernel
theorem dX12_isReady_23 : decode cX12_isReady 23 = .ok (.iload_n 1, 1) := by decide +kernel
theorem dX12_isReady_24 : decode cX12_isReady 24 = .ok (.invokevirtual 106, 3) := by decide +kernel
theorem dX12_isReady_27 : decode cX12_isReady 27 = .ok (.iconst (-1), 1) := by decide +kernel
theorem dX12_isReady_28 : decode cX12_isReady 28 = .ok (.if_icmp .ne 7, 3) := by decide +kernel
theorem dX12_isReady_31 : decode cX12_isReady 31 = .ok (.iconst 1, 1) := by decide +kernel
theorem dX12_isReady_32 : decode cX12_isReady 32 = .ok (.goto 4, 3) := by decide +kernel
theorem dX12_isReady_35 : decode cX12_isReady 35 = .ok (.iconst 0, 1) := by decide +kernel
theorem dX12_isReady_36 : decode cX12_isReady 36 = .ok (.ireturn, 1) := by decide +kernel
set_option maxRecDepth 20000 in
theorem ggX12_firstOpen_X12_of : GoodIn wsX12_firstOpen wsX12_of := goodIn_r _ [5, 6, 7, 8, 9, 10, 11, 12, 13, 14, 15, 16, 17, 18, 19, 20, 21, 22, 23, 24, 25] rfl (by decide +kernel)
set_option maxRecDepth 20000 in
theorem gX12_firstOpen_X12_of : GoodIn wsX12_firstOpen (wsV RX12 95 RX12 yX12_of wsX12_of) := goodIn_app (goodIn_of _ (by decide +kernel)) ggX12_firstOpen_X12_of
theorem dX12_firstOpen_0 : decode cX12_firstOpen 0 = .ok (.iconst 0, 1) := by decide +kernel
theorem dX12_firstOpen_1 : decode cX12_firstOpen 1 = .ok (.istore_n 2, 1) := by decide +kernel
theorem dX12_firstOpen_2 : decode cX12_firstOpen 2 = .ok (.iload_n 2, 1) := by decide +kernel
theorem dX12_firstOpen_3 : decode cX12_firstOpen 3 = .ok (.aload_n 0, 1) := by decide +kernel
theorem dX12_firstOpen_4 : decode cX12_firstOpen 4 = .ok (.iload_n 1, 1) := by decide +kernel
theorem dX12_firstOpen_5 : decode cX12_firstOpen 5 = .ok (.bipush 12, 2) := by decide +kernel
theorem dX12_firstOpen_7 : decode cX12_firstOpen 7 = .ok (.invokevirtual 95, 3) := by decide +kernel
theorem dX12_firstOpen_10 : decode cX12_firstOpen 10 = .ok (.if_icmp .ge 38, 3) := by decide +kernel
theorem dX12_firstOpen_13 : decode cX12_firstOpen 13 = .ok (.aload_n 0, 1) := by decide +kernel
theorem dX12_firstOpen_14 : decode cX12_firstOpen 14 = .ok (.aload_n 0, 1) := by decide +kernel
theorem dX12_firstOpen_15 : decode cX12_firstOpen 15 = .ok (.iload_n 1, 1) := by decide +kernel
theorem dX12_firstOpen_16 : decode cX12_firstOpen 16 = .ok (.bipush 13, 2) := by decide +kernel
theorem dX12_firstOpen_18 : decode cX12_firstOpen 18 = .ok (.iload_n 2, 1) := by decide +kernel
theorem dX12_firstOpen_19 : decode cX12_firstOpen 19 = .ok (.iadd, 1) := by decide +kernel
theorem dX12_firstOpen_20 : decode cX12_firstOpen 20 = .ok (.invokevirtual 95, 3) := by decide +kernel
theorem dX12_firstOpen_23 : decode cX12_firstOpen 23 = .ok (.bipush 17, 2) := by decide +kernel
theorem dX12_firstOpen_25 : decode cX12_firstOpen 25 = .ok (.invokevirtual 95, 3) := by decide +kernel
theorem dX12_firstOpen_28 : decode cX12_firstOpen 28 = .ok (.iconst 2, 1) := by decide +kernel
theorem dX12_firstOpen_29 : decode cX12_firstOpen 29 = .ok (.if_icmp .eq 13, 3) := by decide +kernel
theorem dX12_firstOpen_32 : decode cX12_firstOpen 32 = .ok (.aload_n 0, 1) := by decide +kernel
theorem dX12_firstOpen_33 : decode cX12_firstOpen 33 = .ok (.iload_n 1, 1) := by decide +kernel
theorem dX12_firstOpen_34 : decode cX12_firstOpen 34 = .ok (.bipush 13, 2) := by decide +kernel
theorem dX12_firstOpen_36 : decode cX12_firstOpen 36 = .ok (.iload_n 2, 1) := by decide +kernel
theorem dX12_firstOpen_37 : decode cX12_firstOpen 37 = .ok (.iadd, 1) := by decide +kernel
theorem dX12_firstOpen_38 : decode cX12_firstOpen 38 = .ok (.invokevirtual 95, 3) := by decide +kernel
theorem dX12_firstOpen_41 : decode cX12_firstOpen 41 = .ok (.ireturn, 1) := by decide +kernel
theorem dX12_firstOpen_42 : decode cX12_firstOpen 42 = .ok (.iinc 2 1, 3) := by decide +kernel
theorem dX12_firstOpen_45 : decode cX12_firstOpen 45 = .ok (.goto (-43), 3) := by decide +kernel
theorem dX12_firstOpen_48 : decode cX12_firstOpen 48 = .ok (.iconst (-1), 1) := by decide +kernel
theorem dX12_firstOpen_49 : decode cX12_firstOpen 49 = .ok (.ireturn, 1) := by decide +kernel
set_option maxRecDepth 20000 in
theorem ggX12_occupies_X12_of : GoodIn wsX12_occupies wsX12_of := goodIn_r _ [5, 6, 15, 16, 17, 18, 19, 20, 21, 22, 23, 24, 25, 26, 27, 28, 29, 30, 31, 32, 33] rfl (by decide +kernel)
set_option maxRecDepth 20000 in
theorem gX12_occupies_X12_of : GoodIn wsX12_occupies (wsV RX12 95 RX12 yX12_of wsX12_of) := goodIn_app (goodIn_of _ (by decide +kernel)) ggX12_occupies_X12_of
set_option maxRecDepth 20000 in
theorem ggX12_occupies_X12_hasSuccessor : GoodIn wsX12_occupies wsX12_hasSuccessor := goodIn_r _ [10, 6, 11, 12, 13, 4, 14, 1, 2, 3, 5, 15, 16, 17, 18, 19, 20, 21, 22, 23, 24, 25, 26, 27, 28, 29, 30, 31, 32, 33] rfl (by decide +kernel)
set_option maxRecDepth 20000 in
theorem gX12_occupies_X12_hasSuccessor : GoodIn wsX12_occupies (wsV RX12 103 RX12 yX12_hasSuccessor wsX12_hasSuccessor) := goodIn_app (goodIn_of _ (by decide +kernel)) ggX12_occupies_X12_hasSuccessor
theorem dX12_occupies_0 : decode cX12_occupies 0 = .ok (.aload_n 0, 1) := by decide +kernel
theorem dX12_occupies_1 : decode cX12_occupies 1 = .ok (.iload_n 1, 1) := by decide +kernel
theorem dX12_occupies_2 : decode cX12_occupies 2 = .ok (.bipush 9, 2) := by decide +kernel
theorem dX12_occupies_4 : decode cX12_occupies 4 = .ok (.invokevirtual 95, 3) := by decide +kernel
theorem dX12_occupies_7 : decode cX12_occupies 7 = .ok (.iload_n 2, 1) := by decide +kernel
theorem dX12_occupies_8 : decode cX12_occupies 8 = .ok (.if_icmp .eq 5, 3) := by decide +kernel
theorem dX12_occupies_11 : decode cX12_occupies 11 = .ok (.iconst 0, 1) := by decide +kernel
theorem dX12_occupies_12 : decode cX12_occupies 12 = .ok (.ireturn, 1) := by decide +kernel
theorem dX12_occupies_13 : decode cX12_occupies 13 = .ok (.aload_n 0, 1) := by decide +kernel
theorem dX12_occupies_14 : decode cX12_occupies 14 = .ok (.iload_n 1, 1) := by decide +kernel
theorem dX12_occupies_15 : decode cX12_occupies 15 = .ok (.bipush 17, 2) := by decide +kernel
theorem dX12_occupies_17 : decode cX12_occupies 17 = .ok (.invokevirtual 95, 3) := by decide +kernel
theorem dX12_occupies_20 : decode cX12_occupies 20 = .ok (.iconst 1, 1) := by decide +kernel
theorem dX12_occupies_21 : decode cX12_occupies 21 = .ok (.if_icmp .eq 24, 3) := by decide +kernel
theorem dX12_occupies_24 : decode cX12_occupies 24 = .ok (.aload_n 0, 1) := by decide +kernel
theorem dX12_occupies_25 : decode cX12_occupies 25 = .ok (.iload_n 1, 1) := by decide +kernel
theorem dX12_occupies_26 : decode cX12_occupies 26 = .ok (.bipush 17, 2) := by decide +kernel
theorem dX12_occupies_28 : decode cX12_occupies 28 = .ok (.invokevirtual 95, 3) := by decide +kernel
theorem dX12_occupies_31 : decode cX12_occupies 31 = .ok (.iconst 2, 1) := by decide +kernel
theorem dX12_occupies_32 : decode cX12_occupies 32 = .ok (.if_icmp .ne 17, 3) := by decide +kernel
theorem dX12_occupies_35 : decode cX12_occupies 35 = .ok (.aload_n 0, 1) := by decide +kernel
theorem dX12_occupies_36 : decode cX12_occupies 36 = .ok (.iload_n 1, 1) := by decide +kernel
theorem dX12_occupies_37 : decode cX12_occupies 37 = .ok (.iconst 0, 1) := by decide +kernel
theorem dX12_occupies_38 : decode cX12_occupies 38 = .ok (.iconst 3, 1) := by decide +kernel
theorem dX12_occupies_39 : decode cX12_occupies 39 = .ok (.invokevirtual 103, 3) := by decide +kernel
theorem dX12_occupies_42 : decode cX12_occupies 42 = .ok (.ifCond .eq 7, 3) := by decide +kernel
theorem dX12_occupies_45 : decode cX12_occupies 45 = .ok (.iconst 1, 1) := by decide +kernel
theorem dX12_occupies_46 : decode cX12_occupies 46 = .ok (.goto 4, 3) := by decide +kernel
theorem dX12_occupies_49 : decode cX12_occupies 49 = .ok (.iconst 0, 1) := by decide +kernel
theorem dX12_occupies_50 : decode cX12_occupies 50 = .ok (.ireturn, 1) := by decide +kernel
set_option maxRecDepth 20000 in
theorem ggX12_usedPans_X12_occupies : GoodIn wsX12_usedPans wsX12_occupies := goodIn_r _ [6, 7, 8, 9, 5, 10, 1, 11, 12, 13, 14, 15, 16, 17, 18, 19, 20, 21, 22, 23, 24, 25, 26, 27, 28, 29, 30, 31, 32, 33, 34, 35, 36, 37] rfl (by decide +kernel)
set_option maxRecDepth 20000 in
theorem gX12_usedPans_X12_occupies : GoodIn wsX12_usedPans (wsV RX12 110 RX12 yX12_occupies wsX12_occupies) := goodIn_app (goodIn_of _ (by decide +kernel)) ggX12_usedPans_X12_occupies
theorem dX12_usedPans_0 : decode cX12_usedPans 0 = .ok (.iconst 0, 1) := by decide +kernel
theorem dX12_usedPans_1 : decode cX12_usedPans 1 = .ok (.istore_n 2, 1) := by decide +kernel
theorem dX12_usedPans_2 : decode cX12_usedPans 2 = .ok (.iconst 0, 1) := by decide +kernel
theorem dX12_usedPans_3 : decode cX12_usedPans 3 = .ok (.istore_n 3, 1) := by decide +kernel
theorem dX12_usedPans_4 : decode cX12_usedPans 4 = .ok (.iload_n 3, 1) := by decide +kernel
theorem dX12_usedPans_5 : decode cX12_usedPans 5 = .ok (.aload_n 0, 1) := by decide +kernel
theorem dX12_usedPans_6 : decode cX12_usedPans 6 = .ok (.getfield 13, 3) := by decide +kernel
theorem dX12_usedPans_9 : decode cX12_usedPans 9 = .ok (.bipush 13, 2) := by decide +kernel
theorem dX12_usedPans_11 : decode cX12_usedPans 11 = .ok (.iaload, 1) := by decide +kernel
theorem dX12_usedPans_12 : decode cX12_usedPans 12 = .ok (.if_icmp .ge 26, 3) := by decide +kernel
theorem dX12_usedPans_15 : decode cX12_usedPans 15 = .ok (.iload_n 2, 1) := by decide +kernel
theorem dX12_usedPans_16 : decode cX12_usedPans 16 = .ok (.aload_n 0, 1) := by decide +kernel
theorem dX12_usedPans_17 : decode cX12_usedPans 17 = .ok (.iload_n 3, 1) := by decide +kernel
theorem dX12_usedPans_18 : decode cX12_usedPans 18 = .ok (.iload_n 1, 1) := by decide +kernel
theorem dX12_usedPans_19 : decode cX12_usedPans 19 = .ok (.invokevirtual 110, 3) := by decide +kernel
theorem dX12_usedPans_22 : decode cX12_usedPans 22 = .ok (.ifCond .eq 7, 3) := by decide +kernel
theorem dX12_usedPans_25 : decode cX12_usedPans 25 = .ok (.iconst 1, 1) := by decide +kernel
theorem dX12_usedPans_26 : decode cX12_usedPans 26 = .ok (.goto 4, 3) := by decide +kernel
theorem dX12_usedPans_29 : decode cX12_usedPans 29 = .ok (.iconst 0, 1) := by decide +kernel
theorem dX12_usedPans_30 : decode cX12_usedPans 30 = .ok (.iadd, 1) := by decide +kernel
theorem dX12_usedPans_31 : decode cX12_usedPans 31 = .ok (.istore_n 2, 1) := by decide +kernel
theorem dX12_usedPans_32 : decode cX12_usedPans 32 = .ok (.iinc 3 1, 3) := by decide +kernel
theorem dX12_usedPans_35 : decode cX12_usedPans 35 = .ok (.goto (-31), 3) := by decide +kernel
theorem dX12_usedPans_38 : decode cX12_usedPans 38 = .ok (.iload_n 2, 1) := by decide +kernel
theorem dX12_usedPans_39 : decode cX12_usedPans 39 = .ok (.ireturn, 1) := by decide +kernel
set_option maxRecDepth 20000 in
theorem ggX12_hasPan_X12_of : GoodIn wsX12_hasPan wsX12_of := goodIn_r _ [5, 6, 27, 28, 29, 30, 31, 32, 33, 34, 35, 36, 37, 38, 39, 40, 41, 42, 43, 44, 45] rfl (by decide +kernel)
set_option maxRecDepth 20000 in
theorem gX12_hasPan_X12_of : GoodIn wsX12_hasPan (wsV RX12 95 RX12 yX12_of wsX12_of) := goodIn_app (goodIn_of _ (by decide +kernel)) ggX12_hasPan_X12_of
set_option maxRecDepth 20000 in
theorem ggX12_hasPan_X12_usedPans : GoodIn wsX12_hasPan wsX12_usedPans := goodIn_r _ [10, 6, 11, 12, 13, 4, 14, 1, 2, 3, 5, 15, 16, 17, 18, 19, 20, 21, 22, 27, 28, 29, 30, 31, 32, 33, 34, 35, 36, 37, 38, 39, 40, 41, 42, 43, 44, 45] rfl (by decide +kernel)
set_option maxRecDepth 20000 in
theorem gX12_hasPan_X12_usedPans : GoodIn wsX12_hasPan (wsV RX12 113 RX12 yX12_usedPans wsX12_usedPans) := goodIn_app (goodIn_of _ (by decide +kernel)) ggX12_hasPan_X12_usedPans
set_option maxRecDepth 20000 in
theorem ggX12_hasPan_X12_capacity : GoodIn wsX12_hasPan wsX12_capacity := goodIn_r _ [26, 6, 27, 28, 29, 30, 31, 32, 33, 34, 35, 36, 37, 38, 39, 40, 41, 42, 43, 44, 45] rfl (by decide +kernel)
set_option maxRecDepth 20000 in
theorem gX12_hasPan_X12_capacity : GoodIn wsX12_hasPan (wsV RX12 116 RX12 yX12_capacity wsX12_capacity) := goodIn_app (goodIn_of _ (by decide +kernel)) ggX12_hasPan_X12_capacity
theorem dX12_hasPan_0 : decode cX12_hasPan 0 = .ok (.aload_n 0, 1) := by decide +kernel
theorem dX12_hasPan_1 : decode cX12_hasPan 1 = .ok (.iload_n 1, 1) := by decide +kernel
theorem dX12_hasPan_2 : decode cX12_hasPan 2 = .ok (.bipush 9, 2) := by decide +kernel
theorem dX12_hasPan_4 : decode cX12_hasPan 4 = .ok (.invokevirtual 95, 3) := by decide +kernel
theorem dX12_hasPan_7 : decode cX12_hasPan 7 = .ok (.istore_n 2, 1) := by decide +kernel
theorem dX12_hasPan_8 : decode cX12_hasPan 8 = .ok (.iload_n 2, 1) := by decide +kernel
theorem dX12_hasPan_9 : decode cX12_hasPan 9 = .ok (.iconst (-1), 1) := by decide +kernel
theorem dX12_hasPan_10 : decode cX12_hasPan 10 = .ok (.if_icmp .eq 16, 3) := by decide +kernel
theorem dX12_hasPan_13 : decode cX12_hasPan 13 = .ok (.aload_n 0, 1) := by decide +kernel
theorem dX12_hasPan_14 : decode cX12_hasPan 14 = .ok (.iload_n 2, 1) := by decide +kernel
theorem dX12_hasPan_15 : decode cX12_hasPan 15 = .ok (.invokevirtual 113, 3) := by decide +kernel
theorem dX12_hasPan_18 : decode cX12_hasPan 18 = .ok (.aload_n 0, 1) := by decide +kernel
theorem dX12_hasPan_19 : decode cX12_hasPan 19 = .ok (.iload_n 2, 1) := by decide +kernel
theorem dX12_hasPan_20 : decode cX12_hasPan 20 = .ok (.invokevirtual 116, 3) := by decide +kernel
theorem dX12_hasPan_23 : decode cX12_hasPan 23 = .ok (.if_icmp .ge 7, 3) := by decide +kernel
theorem dX12_hasPan_26 : decode cX12_hasPan 26 = .ok (.iconst 1, 1) := by decide +kernel
theorem dX12_hasPan_27 : decode cX12_hasPan 27 = .ok (.goto 4, 3) := by decide +kernel
theorem dX12_hasPan_30 : decode cX12_hasPan 30 = .ok (.iconst 0, 1) := by decide +kernel
theorem dX12_hasPan_31 : decode cX12_hasPan 31 = .ok (.ireturn, 1) := by decide +kernel
set_option maxRecDepth 20000 in
theorem ggX12_isCooked_X12_of : GoodIn wsX12_isCooked wsX12_of := goodIn_r _ [5, 6, 7, 8, 9, 10, 11, 12, 13, 14, 15, 16, 17, 18, 19, 20, 21, 22, 23, 24, 25] rfl (by decide +kernel)
set_option maxRecDepth 20000 in
theorem gX12_isCooked_X12_of : GoodIn wsX12_isCooked (wsV RX12 95 RX12 yX12_of wsX12_of) := goodIn_app (goodIn_of _ (by decide +kernel)) ggX12_isCooked_X12_of
theorem dX12_isCooked_0 : decode cX12_isCooked 0 = .ok (.aload_n 0, 1) := by decide +kernel
theorem dX12_isCooked_1 : decode cX12_isCooked 1 = .ok (.iload_n 1, 1) := by decide +kernel
theorem dX12_isCooked_2 : decode cX12_isCooked 2 = .ok (.bipush 17, 2) := by decide +kernel
theorem dX12_isCooked_4 : decode cX12_isCooked 4 = .ok (.invokevirtual 95, 3) := by decide +kernel
theorem dX12_isCooked_7 : decode cX12_isCooked 7 = .ok (.iconst 1, 1) := by decide +kernel
theorem dX12_isCooked_8 : decode cX12_isCooked 8 = .ok (.if_icmp .ne 17, 3) := by decide +kernel
theorem dX12_isCooked_11 : decode cX12_isCooked 11 = .ok (.aload_n 0, 1) := by decide +kernel
theorem dX12_isCooked_12 : decode cX12_isCooked 12 = .ok (.iload_n 1, 1) := by decide +kernel
theorem dX12_isCooked_13 : decode cX12_isCooked 13 = .ok (.bipush 11, 2) := by decide +kernel
theorem dX12_isCooked_15 : decode cX12_isCooked 15 = .ok (.invokevirtual 95, 3) := by decide +kernel
theorem dX12_isCooked_18 : decode cX12_isCooked 18 = .ok (.ifCond .ne 7, 3) := by decide +kernel
theorem dX12_isCooked_21 : decode cX12_isCooked 21 = .ok (.iconst 1, 1) := by decide +kernel
theorem dX12_isCooked_22 : decode cX12_isCooked 22 = .ok (.goto 4, 3) := by decide +kernel
theorem dX12_isCooked_25 : decode cX12_isCooked 25 = .ok (.iconst 0, 1) := by decide +kernel
theorem dX12_isCooked_26 : decode cX12_isCooked 26 = .ok (.ireturn, 1) := by decide +kernel
set_option maxRecDepth 20000 in
theorem ggX12_hasCook_X12_isCooked : GoodIn wsX12_hasCook wsX12_isCooked := goodIn_r _ [6, 7, 8, 9, 5, 10, 1, 11, 12, 13, 14, 15, 16, 17, 18, 19, 20, 21, 22, 23, 24, 25, 26, 27, 28, 29] rfl (by decide +kernel)
set_option maxRecDepth 20000 in
theorem gX12_hasCook_X12_isCooked : GoodIn wsX12_hasCook (wsV RX12 119 RX12 yX12_isCooked wsX12_isCooked) := goodIn_app (goodIn_of _ (by decide +kernel)) ggX12_hasCook_X12_isCooked
set_option maxRecDepth 20000 in
theorem ggX12_hasCook_X12_of : GoodIn wsX12_hasCook wsX12_of := goodIn_r _ [10, 1, 11, 12, 13, 14, 15, 16, 17, 18, 19, 20, 21, 22, 23, 24, 25, 26, 27, 28, 29] rfl (by decide +kernel)
set_option maxRecDepth 20000 in
theorem gX12_hasCook_X12_of : GoodIn wsX12_hasCook (wsV RX12 95 RX12 yX12_of wsX12_of) := goodIn_app (goodIn_of _ (by decide +kernel)) ggX12_hasCook_X12_of
theorem dX12_hasCook_0 : decode cX12_hasCook 0 = .ok (.iconst 0, 1) := by decide +kernel
theorem dX12_hasCook_1 : decode cX12_hasCook 1 = .ok (.istore_n 2, 1) := by decide +kernel
theorem dX12_hasCook_2 : decode cX12_hasCook 2 = .ok (.iconst 0, 1) := by decide +kernel
theorem dX12_hasCook_3 : decode cX12_hasCook 3 = .ok (.istore_n 3, 1) := by decide +kernel
theorem dX12_hasCook_4 : decode cX12_hasCook 4 = .ok (.iload_n 3, 1) := by decide +kernel
theorem dX12_hasCook_5 : decode cX12_hasCook 5 = .ok (.aload_n 0, 1) := by decide +kernel
theorem dX12_hasCook_6 : decode cX12_hasCook 6 = .ok (.getfield 13, 3) := by decide +kernel
theorem dX12_hasCook_9 : decode cX12_hasCook 9 = .ok (.bipush 13, 2) := by decide +kernel
theorem dX12_hasCook_11 : decode cX12_hasCook 11 = .ok (.iaload, 1) := by decide +kernel
theorem dX12_hasCook_12 : decode cX12_hasCook 12 = .ok (.if_icmp .ge 25, 3) := by decide +kernel
theorem dX12_hasCook_15 : decode cX12_hasCook 15 = .ok (.iload_n 2, 1) := by decide +kernel
theorem dX12_hasCook_16 : decode cX12_hasCook 16 = .ok (.aload_n 0, 1) := by decide +kernel
theorem dX12_hasCook_17 : decode cX12_hasCook 17 = .ok (.iload_n 3, 1) := by decide +kernel
theorem dX12_hasCook_18 : decode cX12_hasCook 18 = .ok (.invokevirtual 119, 3) := by decide +kernel
theorem dX12_hasCook_21 : decode cX12_hasCook 21 = .ok (.ifCond .eq 7, 3) := by decide +kernel
theorem dX12_hasCook_24 : decode cX12_hasCook 24 = .ok (.iconst 1, 1) := by decide +kernel
theorem dX12_hasCook_25 : decode cX12_hasCook 25 = .ok (.goto 4, 3) := by decide +kernel
theorem dX12_hasCook_28 : decode cX12_hasCook 28 = .ok (.iconst 0, 1) := by decide +kernel
theorem dX12_hasCook_29 : decode cX12_hasCook 29 = .ok (.iadd, 1) := by decide +kernel
theorem dX12_hasCook_30 : decode cX12_hasCook 30 = .ok (.istore_n 2, 1) := by decide +kernel
theorem dX12_hasCook_31 : decode cX12_hasCook 31 = .ok (.iinc 3 1, 3) := by decide +kernel
theorem dX12_hasCook_34 : decode cX12_hasCook 34 = .ok (.goto (-30), 3) := by decide +kernel
theorem dX12_hasCook_37 : decode cX12_hasCook 37 = .ok (.aload_n 0, 1) := by decide +kernel
theorem dX12_hasCook_38 : decode cX12_hasCook 38 = .ok (.iload_n 1, 1) := by decide +kernel
theorem dX12_hasCook_39 : decode cX12_hasCook 39 = .ok (.bipush 11, 2) := by decide +kernel
theorem dX12_hasCook_41 : decode cX12_hasCook 41 = .ok (.invokevirtual 95, 3) := by decide +kernel
theorem dX12_hasCook_44 : decode cX12_hasCook 44 = .ok (.iconst 1, 1) := by decide +kernel
theorem dX12_hasCook_45 : decode cX12_hasCook 45 = .ok (.if_icmp .eq 13, 3) := by decide +kernel
theorem dX12_hasCook_48 : decode cX12_hasCook 48 = .ok (.iload_n 2, 1) := by decide +kernel
theorem dX12_hasCook_49 : decode cX12_hasCook 49 = .ok (.aload_n 0, 1) := by decide +kernel
theorem dX12_hasCook_50 : decode cX12_hasCook 50 = .ok (.getfield 13, 3) := by decide +kernel
theorem dX12_hasCook_53 : decode cX12_hasCook 53 = .ok (.iconst 0, 1) := by decide +kernel
theorem dX12_hasCook_54 : decode cX12_hasCook 54 = .ok (.iaload, 1) := by decide +kernel
theorem dX12_hasCook_55 : decode cX12_hasCook 55 = .ok (.if_icmp .ge 7, 3) := by decide +kernel
theorem dX12_hasCook_58 : decode cX12_hasCook 58 = .ok (.iconst 1, 1) := by decide +kernel
theorem dX12_hasCook_59 : decode cX12_hasCook 59 = .ok (.goto 4, 3) := by decide +kernel
theorem dX12_hasCook_62 : decode cX12_hasCook 62 = .ok (.iconst 0, 1) := by decide +kernel
theorem dX12_hasCook_63 : decode cX12_hasCook 63 = .ok (.ireturn, 1) := by decide +kernel
set_option maxRecDepth 20000 in
theorem ggX12_withStatus_X12_of : GoodIn wsX12_withStatus wsX12_of := goodIn_r _ [6, 1, 7, 8, 9, 10, 11, 12, 13, 14, 15, 16, 17, 18, 19, 20, 21, 22, 23, 24, 25] rfl (by decide +kernel)
set_option maxRecDepth 20000 in
theorem gX12_withStatus_X12_of : GoodIn wsX12_withStatus (wsV RX12 95 RX12 yX12_of wsX12_of) := goodIn_app (goodIn_of _ (by decide +kernel)) ggX12_withStatus_X12_of
theorem dX12_withStatus_0 : decode cX12_withStatus 0 = .ok (.iconst 0, 1) := by decide +kernel
theorem dX12_withStatus_1 : decode cX12_withStatus 1 = .ok (.istore_n 2, 1) := by decide +kernel
theorem dX12_withStatus_2 : decode cX12_withStatus 2 = .ok (.iconst 0, 1) := by decide +kernel
theorem dX12_withStatus_3 : decode cX12_withStatus 3 = .ok (.istore_n 3, 1) := by decide +kernel
theorem dX12_withStatus_4 : decode cX12_withStatus 4 = .ok (.iload_n 3, 1) := by decide +kernel
theorem dX12_withStatus_5 : decode cX12_withStatus 5 = .ok (.aload_n 0, 1) := by decide +kernel
theorem dX12_withStatus_6 : decode cX12_withStatus 6 = .ok (.getfield 13, 3) := by decide +kernel
theorem dX12_withStatus_9 : decode cX12_withStatus 9 = .ok (.bipush 13, 2) := by decide +kernel
theorem dX12_withStatus_11 : decode cX12_withStatus 11 = .ok (.iaload, 1) := by decide +kernel
theorem dX12_withStatus_12 : decode cX12_withStatus 12 = .ok (.if_icmp .ge 28, 3) := by decide +kernel
theorem dX12_withStatus_15 : decode cX12_withStatus 15 = .ok (.iload_n 2, 1) := by decide +kernel
theorem dX12_withStatus_16 : decode cX12_withStatus 16 = .ok (.aload_n 0, 1) := by decide +kernel
theorem dX12_withStatus_17 : decode cX12_withStatus 17 = .ok (.iload_n 3, 1) := by decide +kernel
theorem dX12_withStatus_18 : decode cX12_withStatus 18 = .ok (.bipush 17, 2) := by decide +kernel
theorem dX12_withStatus_20 : decode cX12_withStatus 20 = .ok (.invokevirtual 95, 3) := by decide +kernel
theorem dX12_withStatus_23 : decode cX12_withStatus 23 = .ok (.iload_n 1, 1) := by decide +kernel
theorem dX12_withStatus_24 : decode cX12_withStatus 24 = .ok (.if_icmp .ne 7, 3) := by decide +kernel
theorem dX12_withStatus_27 : decode cX12_withStatus 27 = .ok (.iconst 1, 1) := by decide +kernel
theorem dX12_withStatus_28 : decode cX12_withStatus 28 = .ok (.goto 4, 3) := by decide +kernel
theorem dX12_withStatus_31 : decode cX12_withStatus 31 = .ok (.iconst 0, 1) := by decide +kernel
theorem dX12_withStatus_32 : decode cX12_withStatus 32 = .ok (.iadd, 1) := by decide +kernel
theorem dX12_withStatus_33 : decode cX12_withStatus 33 = .ok (.istore_n 2, 1) := by decide +kernel
theorem dX12_withStatus_34 : decode cX12_withStatus 34 = .ok (.iinc 3 1, 3) := by decide +kernel
theorem dX12_withStatus_37 : decode cX12_withStatus 37 = .ok (.goto (-33), 3) := by decide +kernel
theorem dX12_withStatus_40 : decode cX12_withStatus 40 = .ok (.iload_n 2, 1) := by decide +kernel
theorem dX12_withStatus_41 : decode cX12_withStatus 41 = .ok (.ireturn, 1) := by decide +kernel
set_option maxRecDepth 20000 in
theorem ggX12_isFinished_X12_withStatus : GoodIn wsX12_isFinished wsX12_withStatus := goodIn_r _ [6, 1, 7, 8, 9, 5, 10, 11, 12, 13, 14, 15, 16, 17, 18, 19, 20, 21, 22, 23, 24, 25, 26, 27, 28, 29] rfl (by decide +kernel)
set_option maxRecDepth 20000 in
theorem gX12_isFinished_X12_withStatus : GoodIn wsX12_isFinished (wsV RX12 123 RX12 yX12_withStatus wsX12_withStatus) := goodIn_app (goodIn_of _ (by decide +kernel)) ggX12_isFinished_X12_withStatus
theorem dX12_isFinished_0 : decode cX12_isFinished 0 = .ok (.aload_n 0, 1) := by decide +kernel
theorem dX12_isFinished_1 : decode cX12_isFinished 1 = .ok (.iconst 2, 1) := by decide +kernel
theorem dX12_isFinished_2 : decode cX12_isFinished 2 = .ok (.invokevirtual 123, 3) := by decide +kernel
theorem dX12_isFinished_5 : decode cX12_isFinished 5 = .ok (.aload_n 0, 1) := by decide +kernel
theorem dX12_isFinished_6 : decode cX12_isFinished 6 = .ok (.getfield 13, 3) := by decide +kernel
theorem dX12_isFinished_9 : decode cX12_isFinished 9 = .ok (.bipush 13, 2) := by decide +kernel
theorem dX12_isFinished_11 : decode cX12_isFinished 11 = .ok (.iaload, 1) := by decide +kernel
theorem dX12_isFinished_12 : decode cX12_isFinished 12 = .ok (.if_icmp .ne 7, 3) := by decide +kernel
theorem dX12_isFinished_15 : decode cX12_isFinished 15 = .ok (.iconst 1, 1) := by decide +kernel
theorem dX12_isFinished_16 : decode cX12_isFinished 16 = .ok (.goto 4, 3) := by decide +kernel
theorem dX12_isFinished_19 : decode cX12_isFinished 19 = .ok (.iconst 0, 1) := by decide +kernel
theorem dX12_isFinished_20 : decode cX12_isFinished 20 = .ok (.ireturn, 1) := by decide +kernel
set_option maxRecDepth 20000 in
theorem ggX12_work_X12_set : GoodIn wsX12_work wsX12_set := goodIn_r _ [6, 1, 11, 12, 13, 14, 15, 16, 17, 18, 19, 20, 21, 22, 23, 24, 25, 26, 27, 28, 29] rfl (by decide +kernel)
set_option maxRecDepth 20000 in
theorem gX12_work_X12_set : GoodIn wsX12_work (wsV RX12 126 RX12 yX12_set wsX12_set) := goodIn_app (goodIn_of _ (by decide +kernel)) ggX12_work_X12_set
set_option maxRecDepth 20000 in
theorem ggX12_work_X12_of : GoodIn wsX12_work wsX12_of := goodIn_r _ [10, 1, 11, 12, 13, 14, 15, 16, 17, 18, 19, 20, 21, 22, 23, 24, 25, 26, 27, 28, 29] rfl (by decide +kernel)
set_option maxRecDepth 20000 in
theorem gX12_work_X12_of : GoodIn wsX12_work (wsV RX12 95 RX12 yX12_of wsX12_of) := goodIn_app (goodIn_of _ (by decide +kernel)) ggX12_work_X12_of
theorem dX12_work_0 : decode cX12_work 0 = .ok (.aload_n 0, 1) := by decide +kernel
theorem dX12_work_1 : decode cX12_work 1 = .ok (.iload_n 1, 1) := by decide +kernel
theorem dX12_work_2 : decode cX12_work 2 = .ok (.bipush 23, 2) := by decide +kernel
theorem dX12_work_4 : decode cX12_work 4 = .ok (.iconst 0, 1) := by decide +kernel
theorem dX12_work_5 : decode cX12_work 5 = .ok (.invokevirtual 126, 3) := by decide +kernel
theorem dX12_work_8 : decode cX12_work 8 = .ok (.aload_n 0, 1) := by decide +kernel
theorem dX12_work_9 : decode cX12_work 9 = .ok (.iload_n 1, 1) := by decide +kernel
theorem dX12_work_10 : decode cX12_work 10 = .ok (.bipush 17, 2) := by decide +kernel
theorem dX12_work_12 : decode cX12_work 12 = .ok (.invokevirtual 95, 3) := by decide +kernel
theorem dX12_work_15 : decode cX12_work 15 = .ok (.iconst 1, 1) := by decide +kernel
theorem dX12_work_16 : decode cX12_work 16 = .ok (.if_icmp .eq 4, 3) := by decide +kernel
theorem dX12_work_19 : decode cX12_work 19 = .ok (.return_, 1) := by decide +kernel
theorem dX12_work_20 : decode cX12_work 20 = .ok (.aload_n 0, 1) := by decide +kernel
theorem dX12_work_21 : decode cX12_work 21 = .ok (.getfield 13, 3) := by decide +kernel
theorem dX12_work_24 : decode cX12_work 24 = .ok (.bipush 10, 2) := by decide +kernel
theorem dX12_work_26 : decode cX12_work 26 = .ok (.dup2, 1) := by decide +kernel
theorem dX12_work_27 : decode cX12_work 27 = .ok (.iaload, 1) := by decide +kernel
theorem dX12_work_28 : decode cX12_work 28 = .ok (.iconst 1, 1) := by decide +kernel
theorem dX12_work_29 : decode cX12_work 29 = .ok (.aload_n 0, 1) := by decide +kernel
theorem dX12_work_30 : decode cX12_work 30 = .ok (.iload_n 1, 1) := by decide +kernel
theorem dX12_work_31 : decode cX12_work 31 = .ok (.bipush 11, 2) := by decide +kernel
theorem dX12_work_33 : decode cX12_work 33 = .ok (.invokevirtual 95, 3) := by decide +kernel
theorem dX12_work_36 : decode cX12_work 36 = .ok (.isub, 1) := by decide +kernel
theorem dX12_work_37 : decode cX12_work 37 = .ok (.iadd, 1) := by decide +kernel
theorem dX12_work_38 : decode cX12_work 38 = .ok (.iastore, 1) := by decide +kernel
theorem dX12_work_39 : decode cX12_work 39 = .ok (.aload_n 0, 1) := by decide +kernel
theorem dX12_work_40 : decode cX12_work 40 = .ok (.iload_n 1, 1) := by decide +kernel
theorem dX12_work_41 : decode cX12_work 41 = .ok (.bipush 18, 2) := by decide +kernel
theorem dX12_work_43 : decode cX12_work 43 = .ok (.aload_n 0, 1) := by decide +kernel
theorem dX12_work_44 : decode cX12_work 44 = .ok (.iload_n 1, 1) := by decide +kernel
theorem dX12_work_45 : decode cX12_work 45 = .ok (.bipush 18, 2) := by decide +kernel
theorem dX12_work_47 : decode cX12_work 47 = .ok (.invokevirtual 95, 3) := by decide +kernel
theorem dX12_work_50 : decode cX12_work 50 = .ok (.iconst 1, 1) := by decide +kernel
theorem dX12_work_51 : decode cX12_work 51 = .ok (.isub, 1) := by decide +kernel
theorem dX12_work_52 : decode cX12_work 52 = .ok (.invokevirtual 126, 3) := by decide +kernel
theorem dX12_work_55 : decode cX12_work 55 = .ok (.aload_n 0, 1) := by decide +kernel
theorem dX12_work_56 : decode cX12_work 56 = .ok (.iload_n 1, 1) := by decide +kernel
theorem dX12_work_57 : decode cX12_work 57 = .ok (.bipush 18, 2) := by decide +kernel
theorem dX12_work_59 : decode cX12_work 59 = .ok (.invokevirtual 95, 3) := by decide +kernel
theorem dX12_work_62 : decode cX12_work 62 = .ok (.ifCond .le 4, 3) := by decide +kernel
theorem dX12_work_65 : decode cX12_work 65 = .ok (.return_, 1) := by decide +kernel
theorem dX12_work_66 : decode cX12_work 66 = .ok (.aload_n 0, 1) := by decide +kernel
theorem dX12_work_67 : decode cX12_work 67 = .ok (.iload_n 1, 1) := by decide +kernel
theorem dX12_work_68 : decode cX12_work 68 = .ok (.bipush 17, 2) := by decide +kernel
theorem dX12_work_70 : decode cX12_work 70 = .ok (.iconst 2, 1) := by decide +kernel
theorem dX12_work_71 : decode cX12_work 71 = .ok (.invokevirtual 126, 3) := by decide +kernel
theorem dX12_work_74 : decode cX12_work 74 = .ok (.aload_n 0, 1) := by decide +kernel
theorem dX12_work_75 : decode cX12_work 75 = .ok (.iload_n 1, 1) := by decide +kernel
theorem dX12_work_76 : decode cX12_work 76 = .ok (.bipush 19, 2) := by decide +kernel
theorem dX12_work_78 : decode cX12_work 78 = .ok (.iconst 0, 1) := by decide +kernel
theorem dX12_work_79 : decode cX12_work 79 = .ok (.invokevirtual 126, 3) := by decide +kernel
theorem dX12_work_82 : decode cX12_work 82 = .ok (.aload_n 0, 1) := by decide +kernel
theorem dX12_work_83 : decode cX12_work 83 = .ok (.iload_n 1, 1) := by decide +kernel
theorem dX12_work_84 : decode cX12_work 84 = .ok (.bipush 21, 2) := by decide +kernel
theorem dX12_work_86 : decode cX12_work 86 = .ok (.iconst 1, 1) := by decide +kernel
theorem dX12_work_87 : decode cX12_work 87 = .ok (.invokevirtual 126, 3) := by decide +kernel
theorem dX12_work_90 : decode cX12_work 90 = .ok (.aload_n 0, 1) := by decide +kernel
theorem dX12_work_91 : decode cX12_work 91 = .ok (.iload_n 1, 1) := by decide +kernel
theorem dX12_work_92 : decode cX12_work 92 = .ok (.bipush 23, 2) := by decide +kernel
theorem dX12_work_94 : decode cX12_work 94 = .ok (.iconst 1, 1) := by decide +kernel
theorem dX12_work_95 : decode cX12_work 95 = .ok (.invokevirtual 126, 3) := by decide +kernel
theorem dX12_work_98 : decode cX12_work 98 = .ok (.aload_n 0, 1) := by decide +kernel
theorem dX12_work_99 : decode cX12_work 99 = .ok (.getfield 13, 3) := by decide +kernel
theorem dX12_work_102 : decode cX12_work 102 = .ok (.bipush 8, 2) := by decide +kernel
theorem dX12_work_104 : decode cX12_work 104 = .ok (.dup2, 1) := by decide +kernel
theorem dX12_work_105 : decode cX12_work 105 = .ok (.iaload, 1) := by decide +kernel
theorem dX12_work_106 : decode cX12_work 106 = .ok (.iconst 1, 1) := by decide +kernel
theorem dX12_work_107 : decode cX12_work 107 = .ok (.iadd, 1) := by decide +kernel
theorem dX12_work_108 : decode cX12_work 108 = .ok (.iastore, 1) := by decide +kernel
theorem dX12_work_109 : decode cX12_work 109 = .ok (.return_, 1) := by decide +kernel
set_option maxRecDepth 20000 in
theorem ggX12_cool_X12_of : GoodIn wsX12_cool wsX12_of := goodIn_r _ [6, 1, 23, 24, 25, 26, 27, 28, 29, 30, 31, 32, 33, 34, 35, 36, 37, 38, 39, 40, 41] rfl (by decide +kernel)
set_option maxRecDepth 20000 in
theorem gX12_cool_X12_of : GoodIn wsX12_cool (wsV RX12 95 RX12 yX12_of wsX12_of) := goodIn_app (goodIn_of _ (by decide +kernel)) ggX12_cool_X12_of
set_option maxRecDepth 20000 in
theorem ggX12_cool_X12_isTaken : GoodIn wsX12_cool wsX12_isTaken := goodIn_r _ [10, 2, 3, 4, 5, 6, 1, 11, 12, 13, 14, 15, 16, 17, 18, 23, 24, 25, 26, 27, 28, 29, 30, 31, 32, 33, 34, 35, 36, 37, 38, 39, 40, 41] rfl (by decide +kernel)
set_option maxRecDepth 20000 in
theorem gX12_cool_X12_isTaken : GoodIn wsX12_cool (wsV RX12 130 RX12 yX12_isTaken wsX12_isTaken) := goodIn_app (goodIn_of _ (by decide +kernel)) ggX12_cool_X12_isTaken
set_option maxRecDepth 20000 in
theorem ggX12_cool_X12_set : GoodIn wsX12_cool wsX12_set := goodIn_r _ [22, 1, 23, 24, 25, 26, 27, 28, 29, 30, 31, 32, 33, 34, 35, 36, 37, 38, 39, 40, 41] rfl (by decide +kernel)
set_option maxRecDepth 20000 in
theorem gX12_cool_X12_set : GoodIn wsX12_cool (wsV RX12 126 RX12 yX12_set wsX12_set) := goodIn_app (goodIn_of _ (by decide +kernel)) ggX12_cool_X12_set
theorem dX12_cool_0 : decode cX12_cool 0 = .ok (.aload_n 0, 1) := by decide +kernel
theorem dX12_cool_1 : decode cX12_cool 1 = .ok (.iload_n 1, 1) := by decide +kernel
theorem dX12_cool_2 : decode cX12_cool 2 = .ok (.bipush 10, 2) := by decide +kernel
theorem dX12_cool_4 : decode cX12_cool 4 = .ok (.invokevirtual 95, 3) := by decide +kernel
theorem dX12_cool_7 : decode cX12_cool 7 = .ok (.ifCond .eq 33, 3) := by decide +kernel
theorem dX12_cool_10 : decode cX12_cool 10 = .ok (.aload_n 0, 1) := by decide +kernel
theorem dX12_cool_11 : decode cX12_cool 11 = .ok (.iload_n 1, 1) := by decide +kernel
theorem dX12_cool_12 : decode cX12_cool 12 = .ok (.bipush 17, 2) := by decide +kernel
theorem dX12_cool_14 : decode cX12_cool 14 = .ok (.invokevirtual 95, 3) := by decide +kernel
theorem dX12_cool_17 : decode cX12_cool 17 = .ok (.iconst 2, 1) := by decide +kernel
theorem dX12_cool_18 : decode cX12_cool 18 = .ok (.if_icmp .ne 22, 3) := by decide +kernel
theorem dX12_cool_21 : decode cX12_cool 21 = .ok (.aload_n 0, 1) := by decide +kernel
theorem dX12_cool_22 : decode cX12_cool 22 = .ok (.iload_n 1, 1) := by decide +kernel
theorem dX12_cool_23 : decode cX12_cool 23 = .ok (.bipush 23, 2) := by decide +kernel
theorem dX12_cool_25 : decode cX12_cool 25 = .ok (.invokevirtual 95, 3) := by decide +kernel
theorem dX12_cool_28 : decode cX12_cool 28 = .ok (.iconst 1, 1) := by decide +kernel
theorem dX12_cool_29 : decode cX12_cool 29 = .ok (.if_icmp .eq 11, 3) := by decide +kernel
theorem dX12_cool_32 : decode cX12_cool 32 = .ok (.aload_n 0, 1) := by decide +kernel
theorem dX12_cool_33 : decode cX12_cool 33 = .ok (.iload_n 1, 1) := by decide +kernel
theorem dX12_cool_34 : decode cX12_cool 34 = .ok (.invokevirtual 130, 3) := by decide +kernel
theorem dX12_cool_37 : decode cX12_cool 37 = .ok (.ifCond .eq 4, 3) := by decide +kernel
theorem dX12_cool_40 : decode cX12_cool 40 = .ok (.return_, 1) := by decide +kernel
theorem dX12_cool_41 : decode cX12_cool 41 = .ok (.aload_n 0, 1) := by decide +kernel
theorem dX12_cool_42 : decode cX12_cool 42 = .ok (.iload_n 1, 1) := by decide +kernel
theorem dX12_cool_43 : decode cX12_cool 43 = .ok (.bipush 19, 2) := by decide +kernel
theorem dX12_cool_45 : decode cX12_cool 45 = .ok (.aload_n 0, 1) := by decide +kernel
theorem dX12_cool_46 : decode cX12_cool 46 = .ok (.iload_n 1, 1) := by decide +kernel
theorem dX12_cool_47 : decode cX12_cool 47 = .ok (.bipush 19, 2) := by decide +kernel
theorem dX12_cool_49 : decode cX12_cool 49 = .ok (.invokevirtual 95, 3) := by decide +kernel
theorem dX12_cool_52 : decode cX12_cool 52 = .ok (.iconst 1, 1) := by decide +kernel
theorem dX12_cool_53 : decode cX12_cool 53 = .ok (.iadd, 1) := by decide +kernel
theorem dX12_cool_54 : decode cX12_cool 54 = .ok (.invokevirtual 126, 3) := by decide +kernel
theorem dX12_cool_57 : decode cX12_cool 57 = .ok (.aload_n 0, 1) := by decide +kernel
theorem dX12_cool_58 : decode cX12_cool 58 = .ok (.iload_n 1, 1) := by decide +kernel
theorem dX12_cool_59 : decode cX12_cool 59 = .ok (.bipush 19, 2) := by decide +kernel
theorem dX12_cool_61 : decode cX12_cool 61 = .ok (.invokevirtual 95, 3) := by decide +kernel
theorem dX12_cool_64 : decode cX12_cool 64 = .ok (.aload_n 0, 1) := by decide +kernel
theorem dX12_cool_65 : decode cX12_cool 65 = .ok (.getfield 13, 3) := by decide +kernel
theorem dX12_cool_68 : decode cX12_cool 68 = .ok (.iconst 1, 1) := by decide +kernel
theorem dX12_cool_69 : decode cX12_cool 69 = .ok (.iaload, 1) := by decide +kernel
theorem dX12_cool_70 : decode cX12_cool 70 = .ok (.if_icmp .gt 4, 3) := by decide +kernel
theorem dX12_cool_73 : decode cX12_cool 73 = .ok (.return_, 1) := by decide +kernel
theorem dX12_cool_74 : decode cX12_cool 74 = .ok (.aload_n 0, 1) := by decide +kernel
theorem dX12_cool_75 : decode cX12_cool 75 = .ok (.iload_n 1, 1) := by decide +kernel
theorem dX12_cool_76 : decode cX12_cool 76 = .ok (.bipush 17, 2) := by decide +kernel
theorem dX12_cool_78 : decode cX12_cool 78 = .ok (.iconst 3, 1) := by decide +kernel
theorem dX12_cool_79 : decode cX12_cool 79 = .ok (.invokevirtual 126, 3) := by decide +kernel
theorem dX12_cool_82 : decode cX12_cool 82 = .ok (.aload_n 0, 1) := by decide +kernel
theorem dX12_cool_83 : decode cX12_cool 83 = .ok (.iload_n 1, 1) := by decide +kernel
theorem dX12_cool_84 : decode cX12_cool 84 = .ok (.bipush 19, 2) := by decide +kernel
theorem dX12_cool_86 : decode cX12_cool 86 = .ok (.iconst 0, 1) := by decide +kernel
theorem dX12_cool_87 : decode cX12_cool 87 = .ok (.invokevirtual 126, 3) := by decide +kernel
theorem dX12_cool_90 : decode cX12_cool 90 = .ok (.aload_n 0, 1) := by decide +kernel
theorem dX12_cool_91 : decode cX12_cool 91 = .ok (.iload_n 1, 1) := by decide +kernel
theorem dX12_cool_92 : decode cX12_cool 92 = .ok (.bipush 22, 2) := by decide +kernel
theorem dX12_cool_94 : decode cX12_cool 94 = .ok (.aload_n 0, 1) := by decide +kernel
theorem dX12_cool_95 : decode cX12_cool 95 = .ok (.iload_n 1, 1) := by decide +kernel
theorem dX12_cool_96 : decode cX12_cool 96 = .ok (.bipush 22, 2) := by decide +kernel
theorem dX12_cool_98 : decode cX12_cool 98 = .ok (.invokevirtual 95, 3) := by decide +kernel
theorem dX12_cool_101 : decode cX12_cool 101 = .ok (.iconst 1, 1) := by decide +kernel
theorem dX12_cool_102 : decode cX12_cool 102 = .ok (.iadd, 1) := by decide +kernel
theorem dX12_cool_103 : decode cX12_cool 103 = .ok (.invokevirtual 126, 3) := by decide +kernel
theorem dX12_cool_106 : decode cX12_cool 106 = .ok (.aload_n 0, 1) := by decide +kernel
theorem dX12_cool_107 : decode cX12_cool 107 = .ok (.getfield 13, 3) := by decide +kernel
theorem dX12_cool_110 : decode cX12_cool 110 = .ok (.bipush 9, 2) := by decide +kernel
theorem dX12_cool_112 : decode cX12_cool 112 = .ok (.dup2, 1) := by decide +kernel
theorem dX12_cool_113 : decode cX12_cool 113 = .ok (.iaload, 1) := by decide +kernel
theorem dX12_cool_114 : decode cX12_cool 114 = .ok (.iconst 1, 1) := by decide +kernel
theorem dX12_cool_115 : decode cX12_cool 115 = .ok (.iadd, 1) := by decide +kernel
theorem dX12_cool_116 : decode cX12_cool 116 = .ok (.iastore, 1) := by decide +kernel
theorem dX12_cool_117 : decode cX12_cool 117 = .ok (.return_, 1) := by decide +kernel
set_option maxRecDepth 20000 in
theorem ggX12_startIfPossible_X12_hasCook : GoodIn wsX12_startIfPossible wsX12_hasCook := goodIn_r _ [6, 1, 7, 8, 9, 5, 10, 11, 12, 13, 14, 43, 44, 45, 46, 47, 48, 49, 50, 51, 52, 53, 54, 55, 56, 57, 58, 59, 60, 61] rfl (by decide +kernel)
set_option maxRecDepth 20000 in
theorem gX12_startIfPossible_X12_hasCook : GoodIn wsX12_startIfPossible (wsV RX12 133 RX12 yX12_hasCook wsX12_hasCook) := goodIn_app (goodIn_of _ (by decide +kernel)) ggX12_startIfPossible_X12_hasCook
set_option maxRecDepth 20000 in
theorem ggX12_startIfPossible_X12_hasPan : GoodIn wsX12_startIfPossible wsX12_hasPan := goodIn_r _ [18, 11, 12, 13, 5, 14, 1, 19, 20, 21, 22, 23, 24, 25, 26, 27, 28, 29, 30, 31, 32, 33, 34, 35, 36, 37, 38, 43, 44, 45, 46, 47, 48, 49, 50, 51, 52, 53, 54, 55, 56, 57, 58, 59, 60, 61] rfl (by decide +kernel)
set_option maxRecDepth 20000 in
theorem gX12_startIfPossible_X12_hasPan : GoodIn wsX12_startIfPossible (wsV RX12 136 RX12 yX12_hasPan wsX12_hasPan) := goodIn_app (goodIn_of _ (by decide +kernel)) ggX12_startIfPossible_X12_hasPan
set_option maxRecDepth 20000 in
theorem ggX12_startIfPossible_X12_set : GoodIn wsX12_startIfPossible wsX12_set := goodIn_r _ [42, 1, 43, 44, 45, 46, 47, 48, 49, 50, 51, 52, 53, 54, 55, 56, 57, 58, 59, 60, 61] rfl (by decide +kernel)
set_option maxRecDepth 20000 in
theorem gX12_startIfPossible_X12_set : GoodIn wsX12_startIfPossible (wsV RX12 126 RX12 yX12_set wsX12_set) := goodIn_app (goodIn_of _ (by decide +kernel)) ggX12_startIfPossible_X12_set
set_option maxRecDepth 20000 in
theorem ggX12_startIfPossible_X12_of : GoodIn wsX12_startIfPossible wsX12_of := goodIn_r _ [14, 1, 43, 44, 45, 46, 47, 48, 49, 50, 51, 52, 53, 54, 55, 56, 57, 58, 59, 60, 61] rfl (by decide +kernel)
set_option maxRecDepth 20000 in
theorem gX12_startIfPossible_X12_of : GoodIn wsX12_startIfPossible (wsV RX12 95 RX12 yX12_of wsX12_of) := goodIn_app (goodIn_of _ (by decide +kernel)) ggX12_startIfPossible_X12_of
theorem dX12_startIfPossible_0 : decode cX12_startIfPossible 0 = .ok (.aload_n 0, 1) := by decide +kernel
theorem dX12_startIfPossible_1 : decode cX12_startIfPossible 1 = .ok (.iload_n 1, 1) := by decide +kernel
theorem dX12_startIfPossible_2 : decode cX12_startIfPossible 2 = .ok (.invokevirtual 133, 3) := by decide +kernel
theorem dX12_startIfPossible_5 : decode cX12_startIfPossible 5 = .ok (.ifCond .eq 11, 3) := by decide +kernel
theorem dX12_startIfPossible_8 : decode cX12_startIfPossible 8 = .ok (.aload_n 0, 1) := by decide +kernel
theorem dX12_startIfPossible_9 : decode cX12_startIfPossible 9 = .ok (.iload_n 1, 1) := by decide +kernel
theorem dX12_startIfPossible_10 : decode cX12_startIfPossible 10 = .ok (.invokevirtual 136, 3) := by decide +kernel
theorem dX12_startIfPossible_13 : decode cX12_startIfPossible 13 = .ok (.ifCond .ne 4, 3) := by decide +kernel
theorem dX12_startIfPossible_16 : decode cX12_startIfPossible 16 = .ok (.return_, 1) := by decide +kernel
theorem dX12_startIfPossible_17 : decode cX12_startIfPossible 17 = .ok (.aload_n 0, 1) := by decide +kernel
theorem dX12_startIfPossible_18 : decode cX12_startIfPossible 18 = .ok (.iload_n 1, 1) := by decide +kernel
theorem dX12_startIfPossible_19 : decode cX12_startIfPossible 19 = .ok (.bipush 17, 2) := by decide +kernel
theorem dX12_startIfPossible_21 : decode cX12_startIfPossible 21 = .ok (.iconst 1, 1) := by decide +kernel
theorem dX12_startIfPossible_22 : decode cX12_startIfPossible 22 = .ok (.invokevirtual 126, 3) := by decide +kernel
theorem dX12_startIfPossible_25 : decode cX12_startIfPossible 25 = .ok (.aload_n 0, 1) := by decide +kernel
theorem dX12_startIfPossible_26 : decode cX12_startIfPossible 26 = .ok (.iload_n 1, 1) := by decide +kernel
theorem dX12_startIfPossible_27 : decode cX12_startIfPossible 27 = .ok (.bipush 18, 2) := by decide +kernel
theorem dX12_startIfPossible_29 : decode cX12_startIfPossible 29 = .ok (.aload_n 0, 1) := by decide +kernel
theorem dX12_startIfPossible_30 : decode cX12_startIfPossible 30 = .ok (.iload_n 1, 1) := by decide +kernel
theorem dX12_startIfPossible_31 : decode cX12_startIfPossible 31 = .ok (.bipush 7, 2) := by decide +kernel
theorem dX12_startIfPossible_33 : decode cX12_startIfPossible 33 = .ok (.invokevirtual 95, 3) := by decide +kernel
theorem dX12_startIfPossible_36 : decode cX12_startIfPossible 36 = .ok (.invokevirtual 126, 3) := by decide +kernel
theorem dX12_startIfPossible_39 : decode cX12_startIfPossible 39 = .ok (.aload_n 0, 1) := by decide +kernel
theorem dX12_startIfPossible_40 : decode cX12_startIfPossible 40 = .ok (.iload_n 1, 1) := by decide +kernel
theorem dX12_startIfPossible_41 : decode cX12_startIfPossible 41 = .ok (.bipush 20, 2) := by decide +kernel
theorem dX12_startIfPossible_43 : decode cX12_startIfPossible 43 = .ok (.aload_n 0, 1) := by decide +kernel
theorem dX12_startIfPossible_44 : decode cX12_startIfPossible 44 = .ok (.iload_n 1, 1) := by decide +kernel
theorem dX12_startIfPossible_45 : decode cX12_startIfPossible 45 = .ok (.bipush 20, 2) := by decide +kernel
theorem dX12_startIfPossible_47 : decode cX12_startIfPossible 47 = .ok (.invokevirtual 95, 3) := by decide +kernel
theorem dX12_startIfPossible_50 : decode cX12_startIfPossible 50 = .ok (.iconst 1, 1) := by decide +kernel
theorem dX12_startIfPossible_51 : decode cX12_startIfPossible 51 = .ok (.iadd, 1) := by decide +kernel
theorem dX12_startIfPossible_52 : decode cX12_startIfPossible 52 = .ok (.invokevirtual 126, 3) := by decide +kernel
theorem dX12_startIfPossible_55 : decode cX12_startIfPossible 55 = .ok (.aload_n 0, 1) := by decide +kernel
theorem dX12_startIfPossible_56 : decode cX12_startIfPossible 56 = .ok (.getfield 13, 3) := by decide +kernel
theorem dX12_startIfPossible_59 : decode cX12_startIfPossible 59 = .ok (.bipush 7, 2) := by decide +kernel
theorem dX12_startIfPossible_61 : decode cX12_startIfPossible 61 = .ok (.dup2, 1) := by decide +kernel
theorem dX12_startIfPossible_62 : decode cX12_startIfPossible 62 = .ok (.iaload, 1) := by decide +kernel
theorem dX12_startIfPossible_63 : decode cX12_startIfPossible 63 = .ok (.iconst 1, 1) := by decide +kernel
theorem dX12_startIfPossible_64 : decode cX12_startIfPossible 64 = .ok (.iadd, 1) := by decide +kernel
theorem dX12_startIfPossible_65 : decode cX12_startIfPossible 65 = .ok (.iastore, 1) := by decide +kernel
theorem dX12_startIfPossible_66 : decode cX12_startIfPossible 66 = .ok (.return_, 1) := by decide +kernel
set_option maxRecDepth 20000 in
theorem ggX12_queueReady_X12_computePaths : GoodIn wsX12_queueReady wsX12_computePaths := goodIn_r _ [8, 1, 2, 9, 10, 11, 7, 12, 13, 14, 15, 16, 25, 26, 27, 28, 29, 30, 31, 32, 33, 34, 35, 36, 37, 38, 39, 40, 41, 42, 43] rfl (by decide +kernel)
set_option maxRecDepth 20000 in
theorem gX12_queueReady_X12_computePaths : GoodIn wsX12_queueReady (wsV RX12 139 RX12 yX12_computePaths wsX12_computePaths) := goodIn_app (goodIn_of _ (by decide +kernel)) ggX12_queueReady_X12_computePaths
set_option maxRecDepth 20000 in
theorem ggX12_queueReady_X12_isReady : GoodIn wsX12_queueReady wsX12_isReady := goodIn_r _ [20, 13, 14, 15, 7, 16, 1, 21, 22, 23, 24, 25, 26, 27, 28, 29, 30, 31, 32, 33, 34, 35, 36, 37, 38, 39, 40, 41, 42, 43] rfl (by decide +kernel)
set_option maxRecDepth 20000 in
theorem gX12_queueReady_X12_isReady : GoodIn wsX12_queueReady (wsV RX12 142 RX12 yX12_isReady wsX12_isReady) := goodIn_app (goodIn_of _ (by decide +kernel)) ggX12_queueReady_X12_isReady
theorem dX12_queueReady_0 : decode cX12_queueReady 0 = .ok (.aload_n 0, 1) := by decide +kernel
theorem dX12_queueReady_1 : decode cX12_queueReady 1 = .ok (.invokevirtual 139, 3) := by decide +kernel
theorem dX12_queueReady_4 : decode cX12_queueReady 4 = .ok (.iconst 0, 1) := by decide +kernel
theorem dX12_queueReady_5 : decode cX12_queueReady 5 = .ok (.istore_n 1, 1) := by decide +kernel
theorem dX12_queueReady_6 : decode cX12_queueReady 6 = .ok (.iconst 0, 1) := by decide +kernel
theorem dX12_queueReady_7 : decode cX12_queueReady 7 = .ok (.istore_n 2, 1) := by decide +kernel
theorem dX12_queueReady_8 : decode cX12_queueReady 8 = .ok (.iload_n 2, 1) := by decide +kernel
theorem dX12_queueReady_9 : decode cX12_queueReady 9 = .ok (.aload_n 0, 1) := by decide +kernel
theorem dX12_queueReady_10 : decode cX12_queueReady 10 = .ok (.getfield 13, 3) := by decide +kernel
theorem dX12_queueReady_13 : decode cX12_queueReady 13 = .ok (.bipush 13, 2) := by decide +kernel
theorem dX12_queueReady_15 : decode cX12_queueReady 15 = .ok (.iaload, 1) := by decide +kernel
theorem dX12_queueReady_16 : decode cX12_queueReady 16 = .ok (.if_icmp .ge 78, 3) := by decide +kernel
theorem dX12_queueReady_19 : decode cX12_queueReady 19 = .ok (.aload_n 0, 1) := by decide +kernel
theorem dX12_queueReady_20 : decode cX12_queueReady 20 = .ok (.iload_n 2, 1) := by decide +kernel
theorem dX12_queueReady_21 : decode cX12_queueReady 21 = .ok (.invokevirtual 142, 3) := by decide +kernel
theorem dX12_queueReady_24 : decode cX12_queueReady 24 = .ok (.ifCond .ne 6, 3) := by decide +kernel
theorem dX12_queueReady_27 : decode cX12_queueReady 27 = .ok (.goto 61, 3) := by decide +kernel
theorem dX12_queueReady_30 : decode cX12_queueReady 30 = .ok (.iload_n 1, 1) := by decide +kernel
theorem dX12_queueReady_31 : decode cX12_queueReady 31 = .ok (.istore_n 3, 1) := by decide +kernel
theorem dX12_queueReady_32 : decode cX12_queueReady 32 = .ok (.iload_n 3, 1) := by decide +kernel
theorem dX12_queueReady_33 : decode cX12_queueReady 33 = .ok (.ifCond .le 45, 3) := by decide +kernel
theorem dX12_queueReady_36 : decode cX12_queueReady 36 = .ok (.aload_n 0, 1) := by decide +kernel
theorem dX12_queueReady_37 : decode cX12_queueReady 37 = .ok (.getfield 42, 3) := by decide +kernel
theorem dX12_queueReady_40 : decode cX12_queueReady 40 = .ok (.aload_n 0, 1) := by decide +kernel
theorem dX12_queueReady_41 : decode cX12_queueReady 41 = .ok (.getfield 51, 3) := by decide +kernel
theorem dX12_queueReady_44 : decode cX12_queueReady 44 = .ok (.iload_n 3, 1) := by decide +kernel
theorem dX12_queueReady_45 : decode cX12_queueReady 45 = .ok (.iconst 1, 1) := by decide +kernel
theorem dX12_queueReady_46 : decode cX12_queueReady 46 = .ok (.isub, 1) := by decide +kernel
theorem dX12_queueReady_47 : decode cX12_queueReady 47 = .ok (.iaload, 1) := by decide +kernel
theorem dX12_queueReady_48 : decode cX12_queueReady 48 = .ok (.iaload, 1) := by decide +kernel
theorem dX12_queueReady_49 : decode cX12_queueReady 49 = .ok (.aload_n 0, 1) := by decide +kernel
theorem dX12_queueReady_50 : decode cX12_queueReady 50 = .ok (.getfield 42, 3) := by decide +kernel
theorem dX12_queueReady_53 : decode cX12_queueReady 53 = .ok (.iload_n 2, 1) := by decide +kernel
theorem dX12_queueReady_54 : decode cX12_queueReady 54 = .ok (.iaload, 1) := by decide +kernel
theorem dX12_queueReady_55 : decode cX12_queueReady 55 = .ok (.if_icmp .ge 23, 3) := by decide +kernel
theorem dX12_queueReady_58 : decode cX12_queueReady 58 = .ok (.aload_n 0, 1) := by decide +kernel
theorem dX12_queueReady_59 : decode cX12_queueReady 59 = .ok (.getfield 51, 3) := by decide +kernel
theorem dX12_queueReady_62 : decode cX12_queueReady 62 = .ok (.iload_n 3, 1) := by decide +kernel
theorem dX12_queueReady_63 : decode cX12_queueReady 63 = .ok (.aload_n 0, 1) := by decide +kernel
theorem dX12_queueReady_64 : decode cX12_queueReady 64 = .ok (.getfield 51, 3) := by decide +kernel
theorem dX12_queueReady_67 : decode cX12_queueReady 67 = .ok (.iload_n 3, 1) := by decide +kernel
theorem dX12_queueReady_68 : decode cX12_queueReady 68 = .ok (.iconst 1, 1) := by decide +kernel
theorem dX12_queueReady_69 : decode cX12_queueReady 69 = .ok (.isub, 1) := by decide +kernel
theorem dX12_queueReady_70 : decode cX12_queueReady 70 = .ok (.iaload, 1) := by decide +kernel
theorem dX12_queueReady_71 : decode cX12_queueReady 71 = .ok (.iastore, 1) := by decide +kernel
theorem dX12_queueReady_72 : decode cX12_queueReady 72 = .ok (.iinc 3 (-1), 3) := by decide +kernel
theorem dX12_queueReady_75 : decode cX12_queueReady 75 = .ok (.goto (-43), 3) := by decide +kernel
theorem dX12_queueReady_78 : decode cX12_queueReady 78 = .ok (.aload_n 0, 1) := by decide +kernel
theorem dX12_queueReady_79 : decode cX12_queueReady 79 = .ok (.getfield 51, 3) := by decide +kernel
theorem dX12_queueReady_82 : decode cX12_queueReady 82 = .ok (.iload_n 3, 1) := by decide +kernel
theorem dX12_queueReady_83 : decode cX12_queueReady 83 = .ok (.iload_n 2, 1) := by decide +kernel
theorem dX12_queueReady_84 : decode cX12_queueReady 84 = .ok (.iastore, 1) := by decide +kernel
theorem dX12_queueReady_85 : decode cX12_queueReady 85 = .ok (.iinc 1 1, 3) := by decide +kernel
theorem dX12_queueReady_88 : decode cX12_queueReady 88 = .ok (.iinc 2 1, 3) := by decide +kernel
theorem dX12_queueReady_91 : decode cX12_queueReady 91 = .ok (.goto (-83), 3) := by decide +kernel
theorem dX12_queueReady_94 : decode cX12_queueReady 94 = .ok (.iload_n 1, 1) := by decide +kernel
theorem dX12_queueReady_95 : decode cX12_queueReady 95 = .ok (.ireturn, 1) := by decide +kernel
set_option maxRecDepth 20000 in
theorem ggX12_passMinute_X12_work : GoodIn wsX12_passMinute wsX12_work := goodIn_r _ [7, 1, 8, 9, 10, 6, 11, 12, 13, 14, 15, 77, 78, 79, 80, 81, 82, 83, 84, 85, 86, 87, 88, 89, 90, 91, 92, 93, 94, 95] rfl (by decide +kernel)
set_option maxRecDepth 20000 in
theorem gX12_passMinute_X12_work : GoodIn wsX12_passMinute (wsV RX12 145 RX12 yX12_work wsX12_work) := goodIn_app (goodIn_of _ (by decide +kernel)) ggX12_passMinute_X12_work
set_option maxRecDepth 20000 in
theorem ggX12_passMinute_X12_cool : GoodIn wsX12_passMinute wsX12_cool := goodIn_r _ [19, 1, 12, 13, 14, 6, 15, 20, 21, 22, 23, 24, 25, 26, 27, 28, 29, 30, 31, 8, 9, 10, 11, 77, 78, 79, 80, 81, 82, 83, 84, 85, 86, 87, 88, 89, 90, 91, 92, 93, 94, 95] rfl (by decide +kernel)
set_option maxRecDepth 20000 in
theorem gX12_passMinute_X12_cool : GoodIn wsX12_passMinute (wsV RX12 149 RX12 yX12_cool wsX12_cool) := goodIn_app (goodIn_of _ (by decide +kernel)) ggX12_passMinute_X12_cool
set_option maxRecDepth 20000 in
theorem ggX12_passMinute_X12_queueReady : GoodIn wsX12_passMinute wsX12_queueReady := goodIn_r _ [35, 1, 36, 2, 37, 38, 39, 6, 40, 28, 29, 30, 31, 12, 13, 14, 15, 41, 42, 43, 44, 45, 46, 47, 48, 77, 78, 79, 80, 81, 82, 83, 84, 85, 86, 87, 88, 89, 90, 91, 92, 93, 94, 95] rfl (by decide +kernel)
set_option maxRecDepth 20000 in
theorem gX12_passMinute_X12_queueReady : GoodIn wsX12_passMinute (wsV RX12 152 RX12 yX12_queueReady wsX12_queueReady) := goodIn_app (goodIn_of _ (by decide +kernel)) ggX12_passMinute_X12_queueReady
set_option maxRecDepth 20000 in
theorem ggX12_passMinute_X12_startIfPossible : GoodIn wsX12_passMinute wsX12_startIfPossible := goodIn_r _ [52, 1, 53, 54, 55, 6, 56, 57, 58, 59, 60, 12, 13, 14, 15, 61, 62, 63, 64, 65, 66, 67, 68, 69, 70, 71, 72, 24, 25, 26, 27, 28, 29, 30, 31, 73, 74, 75, 76, 8, 9, 10, 11, 77, 78, 79, 80, 81, 82, 83, 84, 85, 86, 87, 88, 89, 90, 91, 92, 93, 94, 95] rfl (by decide +kernel)
set_option maxRecDepth 20000 in
theorem gX12_passMinute_X12_startIfPossible : GoodIn wsX12_passMinute (wsV RX12 155 RX12 yX12_startIfPossible wsX12_startIfPossible) := goodIn_app (goodIn_of _ (by decide +kernel)) ggX12_passMinute_X12_startIfPossible
theorem dX12_passMinute_0 : decode cX12_passMinute 0 = .ok (.aload_n 0, 1) := by decide +kernel
theorem dX12_passMinute_1 : decode cX12_passMinute 1 = .ok (.getfield 13, 3) := by decide +kernel
theorem dX12_passMinute_4 : decode cX12_passMinute 4 = .ok (.bipush 6, 2) := by decide +kernel
theorem dX12_passMinute_6 : decode cX12_passMinute 6 = .ok (.iaload, 1) := by decide +kernel
theorem dX12_passMinute_7 : decode cX12_passMinute 7 = .ok (.ifCond .ne 79, 3) := by decide +kernel
theorem dX12_passMinute_10 : decode cX12_passMinute 10 = .ok (.iconst 0, 1) := by decide +kernel
theorem dX12_passMinute_11 : decode cX12_passMinute 11 = .ok (.istore_n 1, 1) := by decide +kernel
theorem dX12_passMinute_12 : decode cX12_passMinute 12 = .ok (.iload_n 1, 1) := by decide +kernel
theorem dX12_passMinute_13 : decode cX12_passMinute 13 = .ok (.aload_n 0, 1) := by decide +kernel
theorem dX12_passMinute_14 : decode cX12_passMinute 14 = .ok (.getfield 13, 3) := by decide +kernel
theorem dX12_passMinute_17 : decode cX12_passMinute 17 = .ok (.bipush 13, 2) := by decide +kernel
theorem dX12_passMinute_19 : decode cX12_passMinute 19 = .ok (.iaload, 1) := by decide +kernel
theorem dX12_passMinute_20 : decode cX12_passMinute 20 = .ok (.if_icmp .ge 14, 3) := by decide +kernel
theorem dX12_passMinute_23 : decode cX12_passMinute 23 = .ok (.aload_n 0, 1) := by decide +kernel
theorem dX12_passMinute_24 : decode cX12_passMinute 24 = .ok (.iload_n 1, 1) := by decide +kernel
theorem dX12_passMinute_25 : decode cX12_passMinute 25 = .ok (.invokevirtual 145, 3) := by decide +kernel
theorem dX12_passMinute_28 : decode cX12_passMinute 28 = .ok (.iinc 1 1, 3) := by decide +kernel
theorem dX12_passMinute_31 : decode cX12_passMinute 31 = .ok (.goto (-19), 3) := by decide +kernel
theorem dX12_passMinute_34 : decode cX12_passMinute 34 = .ok (.iconst 0, 1) := by decide +kernel
theorem dX12_passMinute_35 : decode cX12_passMinute 35 = .ok (.istore_n 1, 1) := by decide +kernel
theorem dX12_passMinute_36 : decode cX12_passMinute 36 = .ok (.iload_n 1, 1) := by decide +kernel
theorem dX12_passMinute_37 : decode cX12_passMinute 37 = .ok (.aload_n 0, 1) := by decide +kernel
theorem dX12_passMinute_38 : decode cX12_passMinute 38 = .ok (.getfield 13, 3) := by decide +kernel
theorem dX12_passMinute_41 : decode cX12_passMinute 41 = .ok (.bipush 13, 2) := by decide +kernel
theorem dX12_passMinute_43 : decode cX12_passMinute 43 = .ok (.iaload, 1) := by decide +kernel
theorem dX12_passMinute_44 : decode cX12_passMinute 44 = .ok (.if_icmp .ge 14, 3) := by decide +kernel
theorem dX12_passMinute_47 : decode cX12_passMinute 47 = .ok (.aload_n 0, 1) := by decide +kernel
theorem dX12_passMinute_48 : decode cX12_passMinute 48 = .ok (.iload_n 1, 1) := by decide +kernel
theorem dX12_passMinute_49 : decode cX12_passMinute 49 = .ok (.invokevirtual 149, 3) := by decide +kernel
theorem dX12_passMinute_52 : decode cX12_passMinute 52 = .ok (.iinc 1 1, 3) := by decide +kernel
theorem dX12_passMinute_55 : decode cX12_passMinute 55 = .ok (.goto (-19), 3) := by decide +kernel
theorem dX12_passMinute_58 : decode cX12_passMinute 58 = .ok (.aload_n 0, 1) := by decide +kernel
theorem dX12_passMinute_59 : decode cX12_passMinute 59 = .ok (.invokevirtual 152, 3) := by decide +kernel
theorem dX12_passMinute_62 : decode cX12_passMinute 62 = .ok (.istore_n 1, 1) := by decide +kernel
theorem dX12_passMinute_63 : decode cX12_passMinute 63 = .ok (.iconst 0, 1) := by decide +kernel
theorem dX12_passMinute_64 : decode cX12_passMinute 64 = .ok (.istore_n 2, 1) := by decide +kernel
theorem dX12_passMinute_65 : decode cX12_passMinute 65 = .ok (.iload_n 2, 1) := by decide +kernel
theorem dX12_passMinute_66 : decode cX12_passMinute 66 = .ok (.iload_n 1, 1) := by decide +kernel
theorem dX12_passMinute_67 : decode cX12_passMinute 67 = .ok (.if_icmp .ge 19, 3) := by decide +kernel
theorem dX12_passMinute_70 : decode cX12_passMinute 70 = .ok (.aload_n 0, 1) := by decide +kernel
theorem dX12_passMinute_71 : decode cX12_passMinute 71 = .ok (.aload_n 0, 1) := by decide +kernel
theorem dX12_passMinute_72 : decode cX12_passMinute 72 = .ok (.getfield 51, 3) := by decide +kernel
theorem dX12_passMinute_75 : decode cX12_passMinute 75 = .ok (.iload_n 2, 1) := by decide +kernel
theorem dX12_passMinute_76 : decode cX12_passMinute 76 = .ok (.iaload, 1) := by decide +kernel
theorem dX12_passMinute_77 : decode cX12_passMinute 77 = .ok (.invokevirtual 155, 3) := by decide +kernel
theorem dX12_passMinute_80 : decode cX12_passMinute 80 = .ok (.iinc 2 1, 3) := by decide +kernel
theorem dX12_passMinute_83 : decode cX12_passMinute 83 = .ok (.goto (-18), 3) := by decide +kernel
theorem dX12_passMinute_86 : decode cX12_passMinute 86 = .ok (.aload_n 0, 1) := by decide +kernel
theorem dX12_passMinute_87 : decode cX12_passMinute 87 = .ok (.getfield 13, 3) := by decide +kernel
theorem dX12_passMinute_90 : decode cX12_passMinute 90 = .ok (.iconst 4, 1) := by decide +kernel
theorem dX12_passMinute_91 : decode cX12_passMinute 91 = .ok (.dup2, 1) := by decide +kernel
theorem dX12_passMinute_92 : decode cX12_passMinute 92 = .ok (.iaload, 1) := by decide +kernel
theorem dX12_passMinute_93 : decode cX12_passMinute 93 = .ok (.iconst 1, 1) := by decide +kernel
theorem dX12_passMinute_94 : decode cX12_passMinute 94 = .ok (.iadd, 1) := by decide +kernel
theorem dX12_passMinute_95 : decode cX12_passMinute 95 = .ok (.iastore, 1) := by decide +kernel
theorem dX12_passMinute_96 : decode cX12_passMinute 96 = .ok (.return_, 1) := by decide +kernel
set_option maxRecDepth 20000 in
theorem ggX12_passMinutes_X12_passMinute : GoodIn wsX12_passMinutes wsX12_passMinute := goodIn_r _ [6, 1, 7, 8, 9, 10, 5, 11, 12, 13, 14, 15, 16, 17, 18, 19, 20, 21, 22, 23, 24, 25, 26, 27, 28, 29, 30, 31, 32, 33, 34, 35, 36, 37, 38, 39, 40, 41, 42, 43, 44, 45, 46, 47, 48, 49, 50, 51, 52, 53, 54, 55, 56, 57, 58, 59, 60, 61, 62, 63, 64, 65, 66, 67, 68, 69, 70, 71, 72, 73, 74, 75, 76, 77, 78, 79, 80, 81, 82, 83, 84, 85, 86, 87, 88, 89, 90, 91, 92, 93, 94, 95, 96, 97, 98, 99] rfl (by decide +kernel)
set_option maxRecDepth 20000 in
theorem gX12_passMinutes_X12_passMinute : GoodIn wsX12_passMinutes (wsV RX12 158 RX12 yX12_passMinute wsX12_passMinute) := goodIn_app (goodIn_of _ (by decide +kernel)) ggX12_passMinutes_X12_passMinute
theorem dX12_passMinutes_0 : decode cX12_passMinutes 0 = .ok (.aload_n 0, 1) := by decide +kernel
theorem dX12_passMinutes_1 : decode cX12_passMinutes 1 = .ok (.getfield 13, 3) := by decide +kernel
theorem dX12_passMinutes_4 : decode cX12_passMinutes 4 = .ok (.bipush 8, 2) := by decide +kernel
theorem dX12_passMinutes_6 : decode cX12_passMinutes 6 = .ok (.iaload, 1) := by decide +kernel
theorem dX12_passMinutes_7 : decode cX12_passMinutes 7 = .ok (.istore_n 2, 1) := by decide +kernel
theorem dX12_passMinutes_8 : decode cX12_passMinutes 8 = .ok (.iconst 0, 1) := by decide +kernel
theorem dX12_passMinutes_9 : decode cX12_passMinutes 9 = .ok (.istore_n 3, 1) := by decide +kernel
theorem dX12_passMinutes_10 : decode cX12_passMinutes 10 = .ok (.iload_n 3, 1) := by decide +kernel
theorem dX12_passMinutes_11 : decode cX12_passMinutes 11 = .ok (.iload_n 1, 1) := by decide +kernel
theorem dX12_passMinutes_12 : decode cX12_passMinutes 12 = .ok (.if_icmp .ge 13, 3) := by decide +kernel
theorem dX12_passMinutes_15 : decode cX12_passMinutes 15 = .ok (.aload_n 0, 1) := by decide +kernel
theorem dX12_passMinutes_16 : decode cX12_passMinutes 16 = .ok (.invokevirtual 158, 3) := by decide +kernel
theorem dX12_passMinutes_19 : decode cX12_passMinutes 19 = .ok (.iinc 3 1, 3) := by decide +kernel
theorem dX12_passMinutes_22 : decode cX12_passMinutes 22 = .ok (.goto (-12), 3) := by decide +kernel
theorem dX12_passMinutes_25 : decode cX12_passMinutes 25 = .ok (.aload_n 0, 1) := by decide +kernel
theorem dX12_passMinutes_26 : decode cX12_passMinutes 26 = .ok (.getfield 13, 3) := by decide +kernel
theorem dX12_passMinutes_29 : decode cX12_passMinutes 29 = .ok (.bipush 8, 2) := by decide +kernel
theorem dX12_passMinutes_31 : decode cX12_passMinutes 31 = .ok (.iaload, 1) := by decide +kernel
theorem dX12_passMinutes_32 : decode cX12_passMinutes 32 = .ok (.iload_n 2, 1) := by decide +kernel
theorem dX12_passMinutes_33 : decode cX12_passMinutes 33 = .ok (.isub, 1) := by decide +kernel
theorem dX12_passMinutes_34 : decode cX12_passMinutes 34 = .ok (.ireturn, 1) := by decide +kernel
set_option maxRecDepth 20000 in
theorem ggX12_tasteNow_X12_of : GoodIn wsX12_tasteNow wsX12_of := goodIn_r _ [6, 1, 7, 8, 9, 10, 11, 12, 13, 14, 15, 16, 17, 18, 19, 20, 21, 22, 23, 24, 25] rfl (by decide +kernel)
set_option maxRecDepth 20000 in
theorem gX12_tasteNow_X12_of : GoodIn wsX12_tasteNow (wsV RX12 95 RX12 yX12_of wsX12_of) := goodIn_app (goodIn_of _ (by decide +kernel)) ggX12_tasteNow_X12_of
theorem dX12_tasteNow_0 : decode cX12_tasteNow 0 = .ok (.aload_n 0, 1) := by decide +kernel
theorem dX12_tasteNow_1 : decode cX12_tasteNow 1 = .ok (.getfield 13, 3) := by decide +kernel
theorem dX12_tasteNow_4 : decode cX12_tasteNow 4 = .ok (.iconst 5, 1) := by decide +kernel
theorem dX12_tasteNow_5 : decode cX12_tasteNow 5 = .ok (.iaload, 1) := by decide +kernel
theorem dX12_tasteNow_6 : decode cX12_tasteNow 6 = .ok (.istore_n 1, 1) := by decide +kernel
theorem dX12_tasteNow_7 : decode cX12_tasteNow 7 = .ok (.iconst 0, 1) := by decide +kernel
theorem dX12_tasteNow_8 : decode cX12_tasteNow 8 = .ok (.istore_n 2, 1) := by decide +kernel
theorem dX12_tasteNow_9 : decode cX12_tasteNow 9 = .ok (.iload_n 2, 1) := by decide +kernel
theorem dX12_tasteNow_10 : decode cX12_tasteNow 10 = .ok (.aload_n 0, 1) := by decide +kernel
theorem dX12_tasteNow_11 : decode cX12_tasteNow 11 = .ok (.getfield 13, 3) := by decide +kernel
theorem dX12_tasteNow_14 : decode cX12_tasteNow 14 = .ok (.bipush 13, 2) := by decide +kernel
theorem dX12_tasteNow_16 : decode cX12_tasteNow 16 = .ok (.iaload, 1) := by decide +kernel
theorem dX12_tasteNow_17 : decode cX12_tasteNow 17 = .ok (.if_icmp .ge 34, 3) := by decide +kernel
theorem dX12_tasteNow_20 : decode cX12_tasteNow 20 = .ok (.iload_n 1, 1) := by decide +kernel
theorem dX12_tasteNow_21 : decode cX12_tasteNow 21 = .ok (.aload_n 0, 1) := by decide +kernel
theorem dX12_tasteNow_22 : decode cX12_tasteNow 22 = .ok (.iload_n 2, 1) := by decide +kernel
theorem dX12_tasteNow_23 : decode cX12_tasteNow 23 = .ok (.bipush 17, 2) := by decide +kernel
theorem dX12_tasteNow_25 : decode cX12_tasteNow 25 = .ok (.invokevirtual 95, 3) := by decide +kernel
theorem dX12_tasteNow_28 : decode cX12_tasteNow 28 = .ok (.iconst 2, 1) := by decide +kernel
theorem dX12_tasteNow_29 : decode cX12_tasteNow 29 = .ok (.if_icmp .ne 13, 3) := by decide +kernel
theorem dX12_tasteNow_32 : decode cX12_tasteNow 32 = .ok (.aload_n 0, 1) := by decide +kernel
theorem dX12_tasteNow_33 : decode cX12_tasteNow 33 = .ok (.iload_n 2, 1) := by decide +kernel
theorem dX12_tasteNow_34 : decode cX12_tasteNow 34 = .ok (.bipush 8, 2) := by decide +kernel
theorem dX12_tasteNow_36 : decode cX12_tasteNow 36 = .ok (.invokevirtual 95, 3) := by decide +kernel
theorem dX12_tasteNow_39 : decode cX12_tasteNow 39 = .ok (.goto 4, 3) := by decide +kernel
theorem dX12_tasteNow_42 : decode cX12_tasteNow 42 = .ok (.iconst 0, 1) := by decide +kernel
theorem dX12_tasteNow_43 : decode cX12_tasteNow 43 = .ok (.iadd, 1) := by decide +kernel
theorem dX12_tasteNow_44 : decode cX12_tasteNow 44 = .ok (.istore_n 1, 1) := by decide +kernel
theorem dX12_tasteNow_45 : decode cX12_tasteNow 45 = .ok (.iinc 2 1, 3) := by decide +kernel
theorem dX12_tasteNow_48 : decode cX12_tasteNow 48 = .ok (.goto (-39), 3) := by decide +kernel
theorem dX12_tasteNow_51 : decode cX12_tasteNow 51 = .ok (.iload_n 1, 1) := by decide +kernel
theorem dX12_tasteNow_52 : decode cX12_tasteNow 52 = .ok (.ireturn, 1) := by decide +kernel
set_option maxRecDepth 20000 in
theorem ggX12_servingReason_X12_withStatus : GoodIn wsX12_servingReason wsX12_withStatus := goodIn_r _ [6, 1, 7, 8, 9, 5, 10, 19, 20, 21, 22, 23, 24, 25, 26, 27, 28, 29, 30, 31, 32, 33, 34, 35, 36, 37] rfl (by decide +kernel)
set_option maxRecDepth 20000 in
theorem gX12_servingReason_X12_withStatus : GoodIn wsX12_servingReason (wsV RX12 123 RX12 yX12_withStatus wsX12_withStatus) := goodIn_app (goodIn_of _ (by decide +kernel)) ggX12_servingReason_X12_withStatus
set_option maxRecDepth 20000 in
theorem ggX12_servingReason_X12_isFinished : GoodIn wsX12_servingReason wsX12_isFinished := goodIn_r _ [14, 1, 2, 3, 4, 5, 6, 7, 8, 9, 10, 19, 20, 21, 22, 23, 24, 25, 26, 27, 28, 29, 30, 31, 32, 33, 34, 35, 36, 37] rfl (by decide +kernel)
set_option maxRecDepth 20000 in
theorem gX12_servingReason_X12_isFinished : GoodIn wsX12_servingReason (wsV RX12 161 RX12 yX12_isFinished wsX12_isFinished) := goodIn_app (goodIn_of _ (by decide +kernel)) ggX12_servingReason_X12_isFinished
set_option maxRecDepth 20000 in
theorem ggX12_servingReason_X12_tasteNow : GoodIn wsX12_servingReason wsX12_tasteNow := goodIn_r _ [18, 1, 7, 8, 9, 5, 10, 19, 20, 21, 22, 23, 24, 25, 26, 27, 28, 29, 30, 31, 32, 33, 34, 35, 36, 37] rfl (by decide +kernel)
set_option maxRecDepth 20000 in
theorem gX12_servingReason_X12_tasteNow : GoodIn wsX12_servingReason (wsV RX12 164 RX12 yX12_tasteNow wsX12_tasteNow) := goodIn_app (goodIn_of _ (by decide +kernel)) ggX12_servingReason_X12_tasteNow
theorem dX12_servingReason_0 : decode cX12_servingReason 0 = .ok (.aload_n 0, 1) := by decide +kernel
theorem dX12_servingReason_1 : decode cX12_servingReason 1 = .ok (.getfield 13, 3) := by decide +kernel
theorem dX12_servingReason_4 : decode cX12_servingReason 4 = .ok (.bipush 6, 2) := by decide +kernel
theorem dX12_servingReason_6 : decode cX12_servingReason 6 = .ok (.iaload, 1) := by decide +kernel
theorem dX12_servingReason_7 : decode cX12_servingReason 7 = .ok (.iconst 1, 1) := by decide +kernel
theorem dX12_servingReason_8 : decode cX12_servingReason 8 = .ok (.if_icmp .ne 5, 3) := by decide +kernel
theorem dX12_servingReason_11 : decode cX12_servingReason 11 = .ok (.iconst 1, 1) := by decide +kernel
theorem dX12_servingReason_12 : decode cX12_servingReason 12 = .ok (.ireturn, 1) := by decide +kernel
theorem dX12_servingReason_13 : decode cX12_servingReason 13 = .ok (.aload_n 0, 1) := by decide +kernel
theorem dX12_servingReason_14 : decode cX12_servingReason 14 = .ok (.iconst 3, 1) := by decide +kernel
theorem dX12_servingReason_15 : decode cX12_servingReason 15 = .ok (.invokevirtual 123, 3) := by decide +kernel
theorem dX12_servingReason_18 : decode cX12_servingReason 18 = .ok (.ifCond .le 5, 3) := by decide +kernel
theorem dX12_servingReason_21 : decode cX12_servingReason 21 = .ok (.iconst 2, 1) := by decide +kernel
theorem dX12_servingReason_22 : decode cX12_servingReason 22 = .ok (.ireturn, 1) := by decide +kernel
theorem dX12_servingReason_23 : decode cX12_servingReason 23 = .ok (.aload_n 0, 1) := by decide +kernel
theorem dX12_servingReason_24 : decode cX12_servingReason 24 = .ok (.invokevirtual 161, 3) := by decide +kernel
theorem dX12_servingReason_27 : decode cX12_servingReason 27 = .ok (.ifCond .ne 5, 3) := by decide +kernel
theorem dX12_servingReason_30 : decode cX12_servingReason 30 = .ok (.iconst 3, 1) := by decide +kernel
theorem dX12_servingReason_31 : decode cX12_servingReason 31 = .ok (.ireturn, 1) := by decide +kernel
theorem dX12_servingReason_32 : decode cX12_servingReason 32 = .ok (.aload_n 0, 1) := by decide +kernel
theorem dX12_servingReason_33 : decode cX12_servingReason 33 = .ok (.invokevirtual 164, 3) := by decide +kernel
theorem dX12_servingReason_36 : decode cX12_servingReason 36 = .ok (.aload_n 0, 1) := by decide +kernel
theorem dX12_servingReason_37 : decode cX12_servingReason 37 = .ok (.getfield 13, 3) := by decide +kernel
theorem dX12_servingReason_40 : decode cX12_servingReason 40 = .ok (.iconst 2, 1) := by decide +kernel
theorem dX12_servingReason_41 : decode cX12_servingReason 41 = .ok (.iaload, 1) := by decide +kernel
theorem dX12_servingReason_42 : decode cX12_servingReason 42 = .ok (.if_icmp .ge 5, 3) := by decide +kernel
theorem dX12_servingReason_45 : decode cX12_servingReason 45 = .ok (.iconst 4, 1) := by decide +kernel
theorem dX12_servingReason_46 : decode cX12_servingReason 46 = .ok (.ireturn, 1) := by decide +kernel
theorem dX12_servingReason_47 : decode cX12_servingReason 47 = .ok (.aload_n 0, 1) := by decide +kernel
theorem dX12_servingReason_48 : decode cX12_servingReason 48 = .ok (.invokevirtual 164, 3) := by decide +kernel
theorem dX12_servingReason_51 : decode cX12_servingReason 51 = .ok (.aload_n 0, 1) := by decide +kernel
theorem dX12_servingReason_52 : decode cX12_servingReason 52 = .ok (.getfield 13, 3) := by decide +kernel
theorem dX12_servingReason_55 : decode cX12_servingReason 55 = .ok (.iconst 3, 1) := by decide +kernel
theorem dX12_servingReason_56 : decode cX12_servingReason 56 = .ok (.iaload, 1) := by decide +kernel
theorem dX12_servingReason_57 : decode cX12_servingReason 57 = .ok (.if_icmp .le 7, 3) := by decide +kernel
theorem dX12_servingReason_60 : decode cX12_servingReason 60 = .ok (.iconst 5, 1) := by decide +kernel
theorem dX12_servingReason_61 : decode cX12_servingReason 61 = .ok (.goto 4, 3) := by decide +kernel
theorem dX12_servingReason_64 : decode cX12_servingReason 64 = .ok (.iconst 0, 1) := by decide +kernel
theorem dX12_servingReason_65 : decode cX12_servingReason 65 = .ok (.ireturn, 1) := by decide +kernel
set_option maxRecDepth 20000 in
theorem ggX12_canRedo_X12_of : GoodIn wsX12_canRedo wsX12_of := goodIn_r _ [6, 1, 19, 20, 21, 22, 23, 24, 25, 26, 27, 28, 29, 30, 31, 32, 33, 34, 35, 36, 37] rfl (by decide +kernel)
set_option maxRecDepth 20000 in
theorem gX12_canRedo_X12_of : GoodIn wsX12_canRedo (wsV RX12 95 RX12 yX12_of wsX12_of) := goodIn_app (goodIn_of _ (by decide +kernel)) ggX12_canRedo_X12_of
set_option maxRecDepth 20000 in
theorem ggX12_canRedo_X12_isTaken : GoodIn wsX12_canRedo wsX12_isTaken := goodIn_r _ [10, 2, 3, 4, 5, 6, 1, 11, 12, 13, 14, 15, 16, 17, 18, 19, 20, 21, 22, 23, 24, 25, 26, 27, 28, 29, 30, 31, 32, 33, 34, 35, 36, 37] rfl (by decide +kernel)
set_option maxRecDepth 20000 in
theorem gX12_canRedo_X12_isTaken : GoodIn wsX12_canRedo (wsV RX12 130 RX12 yX12_isTaken wsX12_isTaken) := goodIn_app (goodIn_of _ (by decide +kernel)) ggX12_canRedo_X12_isTaken
theorem dX12_canRedo_0 : decode cX12_canRedo 0 = .ok (.aload_n 0, 1) := by decide +kernel
theorem dX12_canRedo_1 : decode cX12_canRedo 1 = .ok (.iload_n 1, 1) := by decide +kernel
theorem dX12_canRedo_2 : decode cX12_canRedo 2 = .ok (.bipush 17, 2) := by decide +kernel
theorem dX12_canRedo_4 : decode cX12_canRedo 4 = .ok (.invokevirtual 95, 3) := by decide +kernel
theorem dX12_canRedo_7 : decode cX12_canRedo 7 = .ok (.iconst 2, 1) := by decide +kernel
theorem dX12_canRedo_8 : decode cX12_canRedo 8 = .ok (.if_icmp .ne 25, 3) := by decide +kernel
theorem dX12_canRedo_11 : decode cX12_canRedo 11 = .ok (.aload_n 0, 1) := by decide +kernel
theorem dX12_canRedo_12 : decode cX12_canRedo 12 = .ok (.iload_n 1, 1) := by decide +kernel
theorem dX12_canRedo_13 : decode cX12_canRedo 13 = .ok (.invokevirtual 130, 3) := by decide +kernel
theorem dX12_canRedo_16 : decode cX12_canRedo 16 = .ok (.ifCond .ne 17, 3) := by decide +kernel
theorem dX12_canRedo_19 : decode cX12_canRedo 19 = .ok (.aload_n 0, 1) := by decide +kernel
theorem dX12_canRedo_20 : decode cX12_canRedo 20 = .ok (.getfield 13, 3) := by decide +kernel
theorem dX12_canRedo_23 : decode cX12_canRedo 23 = .ok (.bipush 6, 2) := by decide +kernel
theorem dX12_canRedo_25 : decode cX12_canRedo 25 = .ok (.iaload, 1) := by decide +kernel
theorem dX12_canRedo_26 : decode cX12_canRedo 26 = .ok (.ifCond .ne 7, 3) := by decide +kernel
theorem dX12_canRedo_29 : decode cX12_canRedo 29 = .ok (.iconst 1, 1) := by decide +kernel
theorem dX12_canRedo_30 : decode cX12_canRedo 30 = .ok (.goto 4, 3) := by decide +kernel
theorem dX12_canRedo_33 : decode cX12_canRedo 33 = .ok (.iconst 0, 1) := by decide +kernel
theorem dX12_canRedo_34 : decode cX12_canRedo 34 = .ok (.ireturn, 1) := by decide +kernel
set_option maxRecDepth 20000 in
theorem ggX12_stopIt_X12_of : GoodIn wsX12_stopIt wsX12_of := goodIn_r _ [6, 1, 11, 12, 13, 14, 15, 16, 17, 18, 19, 20, 21, 22, 23, 24, 25, 26, 27, 28, 29] rfl (by decide +kernel)
set_option maxRecDepth 20000 in
theorem gX12_stopIt_X12_of : GoodIn wsX12_stopIt (wsV RX12 95 RX12 yX12_of wsX12_of) := goodIn_app (goodIn_of _ (by decide +kernel)) ggX12_stopIt_X12_of
set_option maxRecDepth 20000 in
theorem ggX12_stopIt_X12_set : GoodIn wsX12_stopIt wsX12_set := goodIn_r _ [10, 1, 11, 12, 13, 14, 15, 16, 17, 18, 19, 20, 21, 22, 23, 24, 25, 26, 27, 28, 29] rfl (by decide +kernel)
set_option maxRecDepth 20000 in
theorem gX12_stopIt_X12_set : GoodIn wsX12_stopIt (wsV RX12 126 RX12 yX12_set wsX12_set) := goodIn_app (goodIn_of _ (by decide +kernel)) ggX12_stopIt_X12_set
theorem dX12_stopIt_0 : decode cX12_stopIt 0 = .ok (.aload_n 0, 1) := by decide +kernel
theorem dX12_stopIt_1 : decode cX12_stopIt 1 = .ok (.iload_n 1, 1) := by decide +kernel
theorem dX12_stopIt_2 : decode cX12_stopIt 2 = .ok (.bipush 18, 2) := by decide +kernel
theorem dX12_stopIt_4 : decode cX12_stopIt 4 = .ok (.invokevirtual 95, 3) := by decide +kernel
theorem dX12_stopIt_7 : decode cX12_stopIt 7 = .ok (.istore_n 2, 1) := by decide +kernel
theorem dX12_stopIt_8 : decode cX12_stopIt 8 = .ok (.aload_n 0, 1) := by decide +kernel
theorem dX12_stopIt_9 : decode cX12_stopIt 9 = .ok (.iload_n 1, 1) := by decide +kernel
theorem dX12_stopIt_10 : decode cX12_stopIt 10 = .ok (.bipush 17, 2) := by decide +kernel
theorem dX12_stopIt_12 : decode cX12_stopIt 12 = .ok (.iconst 0, 1) := by decide +kernel
theorem dX12_stopIt_13 : decode cX12_stopIt 13 = .ok (.invokevirtual 126, 3) := by decide +kernel
theorem dX12_stopIt_16 : decode cX12_stopIt 16 = .ok (.aload_n 0, 1) := by decide +kernel
theorem dX12_stopIt_17 : decode cX12_stopIt 17 = .ok (.iload_n 1, 1) := by decide +kernel
theorem dX12_stopIt_18 : decode cX12_stopIt 18 = .ok (.bipush 18, 2) := by decide +kernel
theorem dX12_stopIt_20 : decode cX12_stopIt 20 = .ok (.iconst 0, 1) := by decide +kernel
theorem dX12_stopIt_21 : decode cX12_stopIt 21 = .ok (.invokevirtual 126, 3) := by decide +kernel
theorem dX12_stopIt_24 : decode cX12_stopIt 24 = .ok (.aload_n 0, 1) := by decide +kernel
theorem dX12_stopIt_25 : decode cX12_stopIt 25 = .ok (.getfield 13, 3) := by decide +kernel
theorem dX12_stopIt_28 : decode cX12_stopIt 28 = .ok (.bipush 11, 2) := by decide +kernel
theorem dX12_stopIt_30 : decode cX12_stopIt 30 = .ok (.dup2, 1) := by decide +kernel
theorem dX12_stopIt_31 : decode cX12_stopIt 31 = .ok (.iaload, 1) := by decide +kernel
theorem dX12_stopIt_32 : decode cX12_stopIt 32 = .ok (.iconst 1, 1) := by decide +kernel
theorem dX12_stopIt_33 : decode cX12_stopIt 33 = .ok (.iadd, 1) := by decide +kernel
theorem dX12_stopIt_34 : decode cX12_stopIt 34 = .ok (.iastore, 1) := by decide +kernel
theorem dX12_stopIt_35 : decode cX12_stopIt 35 = .ok (.iload_n 2, 1) := by decide +kernel
theorem dX12_stopIt_36 : decode cX12_stopIt 36 = .ok (.ireturn, 1) := by decide +kernel
set_option maxRecDepth 20000 in
theorem ggX12_redoIt_X12_of : GoodIn wsX12_redoIt wsX12_of := goodIn_r _ [5, 6, 11, 12, 13, 14, 15, 16, 17, 18, 19, 20, 21, 22, 23, 24, 25, 26, 27, 28, 29] rfl (by decide +kernel)
set_option maxRecDepth 20000 in
theorem gX12_redoIt_X12_of : GoodIn wsX12_redoIt (wsV RX12 95 RX12 yX12_of wsX12_of) := goodIn_app (goodIn_of _ (by decide +kernel)) ggX12_redoIt_X12_of
set_option maxRecDepth 20000 in
theorem ggX12_redoIt_X12_set : GoodIn wsX12_redoIt wsX12_set := goodIn_r _ [10, 6, 11, 12, 13, 14, 15, 16, 17, 18, 19, 20, 21, 22, 23, 24, 25, 26, 27, 28, 29] rfl (by decide +kernel)
set_option maxRecDepth 20000 in
theorem gX12_redoIt_X12_set : GoodIn wsX12_redoIt (wsV RX12 126 RX12 yX12_set wsX12_set) := goodIn_app (goodIn_of _ (by decide +kernel)) ggX12_redoIt_X12_set
theorem dX12_redoIt_0 : decode cX12_redoIt 0 = .ok (.aload_n 0, 1) := by decide +kernel
theorem dX12_redoIt_1 : decode cX12_redoIt 1 = .ok (.iload_n 1, 1) := by decide +kernel
theorem dX12_redoIt_2 : decode cX12_redoIt 2 = .ok (.bipush 19, 2) := by decide +kernel
theorem dX12_redoIt_4 : decode cX12_redoIt 4 = .ok (.invokevirtual 95, 3) := by decide +kernel
theorem dX12_redoIt_7 : decode cX12_redoIt 7 = .ok (.istore_n 2, 1) := by decide +kernel
theorem dX12_redoIt_8 : decode cX12_redoIt 8 = .ok (.aload_n 0, 1) := by decide +kernel
theorem dX12_redoIt_9 : decode cX12_redoIt 9 = .ok (.iload_n 1, 1) := by decide +kernel
theorem dX12_redoIt_10 : decode cX12_redoIt 10 = .ok (.bipush 17, 2) := by decide +kernel
theorem dX12_redoIt_12 : decode cX12_redoIt 12 = .ok (.iconst 0, 1) := by decide +kernel
theorem dX12_redoIt_13 : decode cX12_redoIt 13 = .ok (.invokevirtual 126, 3) := by decide +kernel
theorem dX12_redoIt_16 : decode cX12_redoIt 16 = .ok (.aload_n 0, 1) := by decide +kernel
theorem dX12_redoIt_17 : decode cX12_redoIt 17 = .ok (.iload_n 1, 1) := by decide +kernel
theorem dX12_redoIt_18 : decode cX12_redoIt 18 = .ok (.bipush 19, 2) := by decide +kernel
theorem dX12_redoIt_20 : decode cX12_redoIt 20 = .ok (.iconst 0, 1) := by decide +kernel
theorem dX12_redoIt_21 : decode cX12_redoIt 21 = .ok (.invokevirtual 126, 3) := by decide +kernel
theorem dX12_redoIt_24 : decode cX12_redoIt 24 = .ok (.iload_n 2, 1) := by decide +kernel
theorem dX12_redoIt_25 : decode cX12_redoIt 25 = .ok (.ireturn, 1) := by decide +kernel
theorem dX12_appendWord_0 : decode cX12_appendWord 0 = .ok (.bipush 24, 2) := by decide +kernel
theorem dX12_appendWord_2 : decode cX12_appendWord 2 = .ok (.istore_n 2, 1) := by decide +kernel
theorem dX12_appendWord_3 : decode cX12_appendWord 3 = .ok (.iload_n 2, 1) := by decide +kernel
theorem dX12_appendWord_4 : decode cX12_appendWord 4 = .ok (.ifCond .lt 35, 3) := by decide +kernel
theorem dX12_appendWord_7 : decode cX12_appendWord 7 = .ok (.aload_n 0, 1) := by decide +kernel
theorem dX12_appendWord_8 : decode cX12_appendWord 8 = .ok (.getfield 24, 3) := by decide +kernel
theorem dX12_appendWord_11 : decode cX12_appendWord 11 = .ok (.aload_n 0, 1) := by decide +kernel
theorem dX12_appendWord_12 : decode cX12_appendWord 12 = .ok (.getfield 27, 3) := by decide +kernel
theorem dX12_appendWord_15 : decode cX12_appendWord 15 = .ok (.iload_n 1, 1) := by decide +kernel
theorem dX12_appendWord_16 : decode cX12_appendWord 16 = .ok (.iload_n 2, 1) := by decide +kernel
theorem dX12_appendWord_17 : decode cX12_appendWord 17 = .ok (.ishr, 1) := by decide +kernel
theorem dX12_appendWord_18 : decode cX12_appendWord 18 = .ok (.sipush 255, 3) := by decide +kernel
theorem dX12_appendWord_21 : decode cX12_appendWord 21 = .ok (.iand, 1) := by decide +kernel
theorem dX12_appendWord_22 : decode cX12_appendWord 22 = .ok (.iastore, 1) := by decide +kernel
theorem dX12_appendWord_23 : decode cX12_appendWord 23 = .ok (.aload_n 0, 1) := by decide +kernel
theorem dX12_appendWord_24 : decode cX12_appendWord 24 = .ok (.dup, 1) := by decide +kernel
theorem dX12_appendWord_25 : decode cX12_appendWord 25 = .ok (.getfield 27, 3) := by decide +kernel
theorem dX12_appendWord_28 : decode cX12_appendWord 28 = .ok (.iconst 1, 1) := by decide +kernel
theorem dX12_appendWord_29 : decode cX12_appendWord 29 = .ok (.iadd, 1) := by decide +kernel
theorem dX12_appendWord_30 : decode cX12_appendWord 30 = .ok (.putfield 27, 3) := by decide +kernel
theorem dX12_appendWord_33 : decode cX12_appendWord 33 = .ok (.iinc 2 (-8), 3) := by decide +kernel
theorem dX12_appendWord_36 : decode cX12_appendWord 36 = .ok (.goto (-33), 3) := by decide +kernel
theorem dX12_appendWord_39 : decode cX12_appendWord 39 = .ok (.return_, 1) := by decide +kernel
set_option maxRecDepth 20000 in
theorem ggX12_append_X12_fails : GoodIn wsX12_append wsX12_fails := goodIn_r _ [6, 7, 13, 14, 15, 16, 17, 18, 19, 20, 21, 22, 23, 24, 25, 26, 27, 28, 29, 30, 31] rfl (by decide +kernel)
set_option maxRecDepth 20000 in
theorem gX12_append_X12_fails : GoodIn wsX12_append (wsV RX12 167 RX12 yX12_fails wsX12_fails) := goodIn_app (goodIn_of _ (by decide +kernel)) ggX12_append_X12_fails
set_option maxRecDepth 20000 in
theorem ggX12_append_X12_appendWord : GoodIn wsX12_append wsX12_appendWord := goodIn_r _ [11, 12, 1, 13, 14, 15, 16, 17, 18, 19, 20, 21, 22, 23, 24, 25, 26, 27, 28, 29, 30, 31] rfl (by decide +kernel)
set_option maxRecDepth 20000 in
theorem gX12_append_X12_appendWord : GoodIn wsX12_append (wsV RX12 171 RX12 yX12_appendWord wsX12_appendWord) := goodIn_app (goodIn_of _ (by decide +kernel)) ggX12_append_X12_appendWord
theorem dX12_append_0 : decode cX12_append 0 = .ok (.aload_n 0, 1) := by decide +kernel
theorem dX12_append_1 : decode cX12_append 1 = .ok (.aload_n 0, 1) := by decide +kernel
theorem dX12_append_2 : decode cX12_append 2 = .ok (.getfield 27, 3) := by decide +kernel
theorem dX12_append_5 : decode cX12_append 5 = .ok (.bipush 20, 2) := by decide +kernel
theorem dX12_append_7 : decode cX12_append 7 = .ok (.iadd, 1) := by decide +kernel
theorem dX12_append_8 : decode cX12_append 8 = .ok (.sipush 700, 3) := by decide +kernel
theorem dX12_append_11 : decode cX12_append 11 = .ok (.if_icmp .le 7, 3) := by decide +kernel
theorem dX12_append_14 : decode cX12_append 14 = .ok (.iconst 1, 1) := by decide +kernel
theorem dX12_append_15 : decode cX12_append 15 = .ok (.goto 4, 3) := by decide +kernel
theorem dX12_append_18 : decode cX12_append 18 = .ok (.iconst 0, 1) := by decide +kernel
theorem dX12_append_19 : decode cX12_append 19 = .ok (.iconst 0, 1) := by decide +kernel
theorem dX12_append_20 : decode cX12_append 20 = .ok (.iconst 0, 1) := by decide +kernel
theorem dX12_append_21 : decode cX12_append 21 = .ok (.invokevirtual 167, 3) := by decide +kernel
theorem dX12_append_24 : decode cX12_append 24 = .ok (.ifCond .eq 5, 3) := by decide +kernel
theorem dX12_append_27 : decode cX12_append 27 = .ok (.iconst 0, 1) := by decide +kernel
theorem dX12_append_28 : decode cX12_append 28 = .ok (.ireturn, 1) := by decide +kernel
theorem dX12_append_29 : decode cX12_append 29 = .ok (.aload_n 0, 1) := by decide +kernel
theorem dX12_append_30 : decode cX12_append 30 = .ok (.iload_n 1, 1) := by decide +kernel
theorem dX12_append_31 : decode cX12_append 31 = .ok (.invokevirtual 171, 3) := by decide +kernel
theorem dX12_append_34 : decode cX12_append 34 = .ok (.aload_n 0, 1) := by decide +kernel
theorem dX12_append_35 : decode cX12_append 35 = .ok (.iload_n 2, 1) := by decide +kernel
theorem dX12_append_36 : decode cX12_append 36 = .ok (.invokevirtual 171, 3) := by decide +kernel
theorem dX12_append_39 : decode cX12_append 39 = .ok (.aload_n 0, 1) := by decide +kernel
theorem dX12_append_40 : decode cX12_append 40 = .ok (.iload_n 3, 1) := by decide +kernel
theorem dX12_append_41 : decode cX12_append 41 = .ok (.invokevirtual 171, 3) := by decide +kernel
theorem dX12_append_44 : decode cX12_append 44 = .ok (.aload_n 0, 1) := by decide +kernel
theorem dX12_append_45 : decode cX12_append 45 = .ok (.iload 4, 2) := by decide +kernel
theorem dX12_append_47 : decode cX12_append 47 = .ok (.invokevirtual 171, 3) := by decide +kernel
theorem dX12_append_50 : decode cX12_append 50 = .ok (.aload_n 0, 1) := by decide +kernel
theorem dX12_append_51 : decode cX12_append 51 = .ok (.iload 5, 2) := by decide +kernel
theorem dX12_append_53 : decode cX12_append 53 = .ok (.invokevirtual 171, 3) := by decide +kernel
theorem dX12_append_56 : decode cX12_append 56 = .ok (.aload_n 0, 1) := by decide +kernel
theorem dX12_append_57 : decode cX12_append 57 = .ok (.getfield 27, 3) := by decide +kernel
theorem dX12_append_60 : decode cX12_append 60 = .ok (.ireturn, 1) := by decide +kernel
set_option maxRecDepth 20000 in
theorem ggX12_truncate_X12_in : GoodIn wsX12_truncate wsX12_in := goodIn_r _ [5] rfl (by decide +kernel)
set_option maxRecDepth 20000 in
theorem gX12_truncate_X12_in : GoodIn wsX12_truncate (va_wsS RX12 87 yX12_in wsX12_in) := goodIn_app (goodIn_of _ (by decide +kernel)) ggX12_truncate_X12_in
set_option maxRecDepth 20000 in
theorem ggX12_truncate_X12_fails : GoodIn wsX12_truncate wsX12_fails := goodIn_r _ [9, 10, 11, 12, 13, 14, 15, 16, 17, 18, 19, 20, 21, 22, 23, 24, 25, 26, 27, 28, 29] rfl (by decide +kernel)
set_option maxRecDepth 20000 in
theorem gX12_truncate_X12_fails : GoodIn wsX12_truncate (wsV RX12 167 RX12 yX12_fails wsX12_fails) := goodIn_app (goodIn_of _ (by decide +kernel)) ggX12_truncate_X12_fails
theorem dX12_truncate_0 : decode cX12_truncate 0 = .ok (.aload_n 0, 1) := by decide +kernel
theorem dX12_truncate_1 : decode cX12_truncate 1 = .ok (.iload_n 1, 1) := by decide +kernel
theorem dX12_truncate_2 : decode cX12_truncate 2 = .ok (.iconst 0, 1) := by decide +kernel
theorem dX12_truncate_3 : decode cX12_truncate 3 = .ok (.aload_n 0, 1) := by decide +kernel
theorem dX12_truncate_4 : decode cX12_truncate 4 = .ok (.getfield 27, 3) := by decide +kernel
theorem dX12_truncate_7 : decode cX12_truncate 7 = .ok (.invokestatic 87, 3) := by decide +kernel
theorem dX12_truncate_10 : decode cX12_truncate 10 = .ok (.ifCond .ne 7, 3) := by decide +kernel
theorem dX12_truncate_13 : decode cX12_truncate 13 = .ok (.iconst 1, 1) := by decide +kernel
theorem dX12_truncate_14 : decode cX12_truncate 14 = .ok (.goto 4, 3) := by decide +kernel
theorem dX12_truncate_17 : decode cX12_truncate 17 = .ok (.iconst 0, 1) := by decide +kernel
theorem dX12_truncate_18 : decode cX12_truncate 18 = .ok (.iconst 0, 1) := by decide +kernel
theorem dX12_truncate_19 : decode cX12_truncate 19 = .ok (.iconst 0, 1) := by decide +kernel
theorem dX12_truncate_20 : decode cX12_truncate 20 = .ok (.invokevirtual 167, 3) := by decide +kernel
theorem dX12_truncate_23 : decode cX12_truncate 23 = .ok (.ifCond .eq 5, 3) := by decide +kernel
theorem dX12_truncate_26 : decode cX12_truncate 26 = .ok (.iconst 0, 1) := by decide +kernel
theorem dX12_truncate_27 : decode cX12_truncate 27 = .ok (.ireturn, 1) := by decide +kernel
theorem dX12_truncate_28 : decode cX12_truncate 28 = .ok (.aload_n 0, 1) := by decide +kernel
theorem dX12_truncate_29 : decode cX12_truncate 29 = .ok (.iload_n 1, 1) := by decide +kernel
theorem dX12_truncate_30 : decode cX12_truncate 30 = .ok (.putfield 27, 3) := by decide +kernel
theorem dX12_truncate_33 : decode cX12_truncate 33 = .ok (.iload_n 1, 1) := by decide +kernel
theorem dX12_truncate_34 : decode cX12_truncate 34 = .ok (.ireturn, 1) := by decide +kernel
theorem dX12_isSmall_0 : decode cX12_isSmall 0 = .ok (.iload_n 0, 1) := by decide +kernel
theorem dX12_isSmall_1 : decode cX12_isSmall 1 = .ok (.bipush 97, 2) := by decide +kernel
theorem dX12_isSmall_3 : decode cX12_isSmall 3 = .ok (.if_icmp .lt 13, 3) := by decide +kernel
theorem dX12_isSmall_6 : decode cX12_isSmall 6 = .ok (.iload_n 0, 1) := by decide +kernel
theorem dX12_isSmall_7 : decode cX12_isSmall 7 = .ok (.bipush 122, 2) := by decide +kernel
theorem dX12_isSmall_9 : decode cX12_isSmall 9 = .ok (.if_icmp .gt 7, 3) := by decide +kernel
theorem dX12_isSmall_12 : decode cX12_isSmall 12 = .ok (.iconst 1, 1) := by decide +kernel
theorem dX12_isSmall_13 : decode cX12_isSmall 13 = .ok (.goto 4, 3) := by decide +kernel
theorem dX12_isSmall_16 : decode cX12_isSmall 16 = .ok (.iconst 0, 1) := by decide +kernel
theorem dX12_isSmall_17 : decode cX12_isSmall 17 = .ok (.ireturn, 1) := by decide +kernel
theorem dX12_isDigit_0 : decode cX12_isDigit 0 = .ok (.iload_n 0, 1) := by decide +kernel
theorem dX12_isDigit_1 : decode cX12_isDigit 1 = .ok (.bipush 48, 2) := by decide +kernel
theorem dX12_isDigit_3 : decode cX12_isDigit 3 = .ok (.if_icmp .lt 13, 3) := by decide +kernel
theorem dX12_isDigit_6 : decode cX12_isDigit 6 = .ok (.iload_n 0, 1) := by decide +kernel
theorem dX12_isDigit_7 : decode cX12_isDigit 7 = .ok (.bipush 57, 2) := by decide +kernel
theorem dX12_isDigit_9 : decode cX12_isDigit 9 = .ok (.if_icmp .gt 7, 3) := by decide +kernel
theorem dX12_isDigit_12 : decode cX12_isDigit 12 = .ok (.iconst 1, 1) := by decide +kernel
theorem dX12_isDigit_13 : decode cX12_isDigit 13 = .ok (.goto 4, 3) := by decide +kernel
theorem dX12_isDigit_16 : decode cX12_isDigit 16 = .ok (.iconst 0, 1) := by decide +kernel
theorem dX12_isDigit_17 : decode cX12_isDigit 17 = .ok (.ireturn, 1) := by decide +kernel
set_option maxRecDepth 20000 in
theorem ggX12_token_X12_isSmall : GoodIn wsX12_token wsX12_isSmall := goodIn_r _ [10] rfl (by decide +kernel)
set_option maxRecDepth 20000 in
theorem gX12_token_X12_isSmall : GoodIn wsX12_token (va_wsS RX12 174 yX12_isSmall wsX12_isSmall) := goodIn_app (goodIn_of _ (by decide +kernel)) ggX12_token_X12_isSmall
set_option maxRecDepth 20000 in
theorem ggX12_token_X12_isDigit : GoodIn wsX12_token wsX12_isDigit := goodIn_r _ [13] rfl (by decide +kernel)
set_option maxRecDepth 20000 in
theorem gX12_token_X12_isDigit : GoodIn wsX12_token (va_wsS RX12 177 yX12_isDigit wsX12_isDigit) := goodIn_app (goodIn_of _ (by decide +kernel)) ggX12_token_X12_isDigit
theorem dX12_token_0 : decode cX12_token 0 = .ok (.aload_n 0, 1) := by decide +kernel
theorem dX12_token_1 : decode cX12_token 1 = .ok (.getfield 54, 3) := by decide +kernel
theorem dX12_token_4 : decode cX12_token 4 = .ok (.aload_n 0, 1) := by decide +kernel
theorem dX12_token_5 : decode cX12_token 5 = .ok (.getfield 27, 3) := by decide +kernel
theorem dX12_token_8 : decode cX12_token 8 = .ok (.if_icmp .ge 44, 3) := by decide +kernel
theorem dX12_token_11 : decode cX12_token 11 = .ok (.aload_n 0, 1) := by decide +kernel
theorem dX12_token_12 : decode cX12_token 12 = .ok (.getfield 24, 3) := by decide +kernel
theorem dX12_token_15 : decode cX12_token 15 = .ok (.aload_n 0, 1) := by decide +kernel
theorem dX12_token_16 : decode cX12_token 16 = .ok (.getfield 54, 3) := by decide +kernel
theorem dX12_token_19 : decode cX12_token 19 = .ok (.iaload, 1) := by decide +kernel
theorem dX12_token_20 : decode cX12_token 20 = .ok (.bipush 32, 2) := by decide +kernel
theorem dX12_token_22 : decode cX12_token 22 = .ok (.if_icmp .eq 17, 3) := by decide +kernel
theorem dX12_token_25 : decode cX12_token 25 = .ok (.aload_n 0, 1) := by decide +kernel
theorem dX12_token_26 : decode cX12_token 26 = .ok (.getfield 24, 3) := by decide +kernel
theorem dX12_token_29 : decode cX12_token 29 = .ok (.aload_n 0, 1) := by decide +kernel
theorem dX12_token_30 : decode cX12_token 30 = .ok (.getfield 54, 3) := by decide +kernel
theorem dX12_token_33 : decode cX12_token 33 = .ok (.iaload, 1) := by decide +kernel
theorem dX12_token_34 : decode cX12_token 34 = .ok (.bipush 10, 2) := by decide +kernel
theorem dX12_token_36 : decode cX12_token 36 = .ok (.if_icmp .ne 16, 3) := by decide +kernel
theorem dX12_token_39 : decode cX12_token 39 = .ok (.aload_n 0, 1) := by decide +kernel
theorem dX12_token_40 : decode cX12_token 40 = .ok (.dup, 1) := by decide +kernel
theorem dX12_token_41 : decode cX12_token 41 = .ok (.getfield 54, 3) := by decide +kernel
theorem dX12_token_44 : decode cX12_token 44 = .ok (.iconst 1, 1) := by decide +kernel
theorem dX12_token_45 : decode cX12_token 45 = .ok (.iadd, 1) := by decide +kernel
theorem dX12_token_46 : decode cX12_token 46 = .ok (.putfield 54, 3) := by decide +kernel
theorem dX12_token_49 : decode cX12_token 49 = .ok (.goto (-49), 3) := by decide +kernel
theorem dX12_token_52 : decode cX12_token 52 = .ok (.aload_n 0, 1) := by decide +kernel
theorem dX12_token_53 : decode cX12_token 53 = .ok (.aload_n 0, 1) := by decide +kernel
theorem dX12_token_54 : decode cX12_token 54 = .ok (.getfield 54, 3) := by decide +kernel
theorem dX12_token_57 : decode cX12_token 57 = .ok (.putfield 60, 3) := by decide +kernel
theorem dX12_token_60 : decode cX12_token 60 = .ok (.aload_n 0, 1) := by decide +kernel
theorem dX12_token_61 : decode cX12_token 61 = .ok (.getfield 54, 3) := by decide +kernel
theorem dX12_token_64 : decode cX12_token 64 = .ok (.aload_n 0, 1) := by decide +kernel
theorem dX12_token_65 : decode cX12_token 65 = .ok (.getfield 27, 3) := by decide +kernel
theorem dX12_token_68 : decode cX12_token 68 = .ok (.if_icmp .ne 9, 3) := by decide +kernel
theorem dX12_token_71 : decode cX12_token 71 = .ok (.aload_n 0, 1) := by decide +kernel
theorem dX12_token_72 : decode cX12_token 72 = .ok (.iconst 0, 1) := by decide +kernel
theorem dX12_token_73 : decode cX12_token 73 = .ok (.putfield 57, 3) := by decide +kernel
theorem dX12_token_76 : decode cX12_token 76 = .ok (.return_, 1) := by decide +kernel
theorem dX12_token_77 : decode cX12_token 77 = .ok (.aload_n 0, 1) := by decide +kernel
theorem dX12_token_78 : decode cX12_token 78 = .ok (.getfield 24, 3) := by decide +kernel
theorem dX12_token_81 : decode cX12_token 81 = .ok (.aload_n 0, 1) := by decide +kernel
theorem dX12_token_82 : decode cX12_token 82 = .ok (.getfield 54, 3) := by decide +kernel
theorem dX12_token_85 : decode cX12_token 85 = .ok (.iaload, 1) := by decide +kernel
theorem dX12_token_86 : decode cX12_token 86 = .ok (.invokestatic 174, 3) := by decide +kernel
theorem dX12_token_89 : decode cX12_token 89 = .ok (.ifCond .eq 66, 3) := by decide +kernel
theorem dX12_token_92 : decode cX12_token 92 = .ok (.aload_n 0, 1) := by decide +kernel
theorem dX12_token_93 : decode cX12_token 93 = .ok (.getfield 54, 3) := by decide +kernel
theorem dX12_token_96 : decode cX12_token 96 = .ok (.aload_n 0, 1) := by decide +kernel
theorem dX12_token_97 : decode cX12_token 97 = .ok (.getfield 27, 3) := by decide +kernel
theorem dX12_token_100 : decode cX12_token 100 = .ok (.if_icmp .ge 31, 3) := by decide +kernel
theorem dX12_token_103 : decode cX12_token 103 = .ok (.aload_n 0, 1) := by decide +kernel
theorem dX12_token_104 : decode cX12_token 104 = .ok (.getfield 24, 3) := by decide +kernel
theorem dX12_token_107 : decode cX12_token 107 = .ok (.aload_n 0, 1) := by decide +kernel
theorem dX12_token_108 : decode cX12_token 108 = .ok (.getfield 54, 3) := by decide +kernel
theorem dX12_token_111 : decode cX12_token 111 = .ok (.iaload, 1) := by decide +kernel
theorem dX12_token_112 : decode cX12_token 112 = .ok (.invokestatic 174, 3) := by decide +kernel
theorem dX12_token_115 : decode cX12_token 115 = .ok (.ifCond .eq 16, 3) := by decide +kernel
theorem dX12_token_118 : decode cX12_token 118 = .ok (.aload_n 0, 1) := by decide +kernel
theorem dX12_token_119 : decode cX12_token 119 = .ok (.dup, 1) := by decide +kernel
theorem dX12_token_120 : decode cX12_token 120 = .ok (.getfield 54, 3) := by decide +kernel
theorem dX12_token_123 : decode cX12_token 123 = .ok (.iconst 1, 1) := by decide +kernel
theorem dX12_token_124 : decode cX12_token 124 = .ok (.iadd, 1) := by decide +kernel
theorem dX12_token_125 : decode cX12_token 125 = .ok (.putfield 54, 3) := by decide +kernel
theorem dX12_token_128 : decode cX12_token 128 = .ok (.goto (-36), 3) := by decide +kernel
theorem dX12_token_131 : decode cX12_token 131 = .ok (.aload_n 0, 1) := by decide +kernel
theorem dX12_token_132 : decode cX12_token 132 = .ok (.aload_n 0, 1) := by decide +kernel
theorem dX12_token_133 : decode cX12_token 133 = .ok (.getfield 54, 3) := by decide +kernel
theorem dX12_token_136 : decode cX12_token 136 = .ok (.aload_n 0, 1) := by decide +kernel
theorem dX12_token_137 : decode cX12_token 137 = .ok (.getfield 60, 3) := by decide +kernel
theorem dX12_token_140 : decode cX12_token 140 = .ok (.isub, 1) := by decide +kernel
theorem dX12_token_141 : decode cX12_token 141 = .ok (.bipush 8, 2) := by decide +kernel
theorem dX12_token_143 : decode cX12_token 143 = .ok (.if_icmp .le 7, 3) := by decide +kernel
theorem dX12_token_146 : decode cX12_token 146 = .ok (.iconst 4, 1) := by decide +kernel
theorem dX12_token_147 : decode cX12_token 147 = .ok (.goto 4, 3) := by decide +kernel
theorem dX12_token_150 : decode cX12_token 150 = .ok (.iconst 1, 1) := by decide +kernel
theorem dX12_token_151 : decode cX12_token 151 = .ok (.putfield 57, 3) := by decide +kernel
theorem dX12_token_154 : decode cX12_token 154 = .ok (.return_, 1) := by decide +kernel
theorem dX12_token_155 : decode cX12_token 155 = .ok (.aload_n 0, 1) := by decide +kernel
theorem dX12_token_156 : decode cX12_token 156 = .ok (.getfield 24, 3) := by decide +kernel
theorem dX12_token_159 : decode cX12_token 159 = .ok (.aload_n 0, 1) := by decide +kernel
theorem dX12_token_160 : decode cX12_token 160 = .ok (.getfield 54, 3) := by decide +kernel
theorem dX12_token_163 : decode cX12_token 163 = .ok (.iaload, 1) := by decide +kernel
theorem dX12_token_164 : decode cX12_token 164 = .ok (.invokestatic 177, 3) := by decide +kernel
theorem dX12_token_167 : decode cX12_token 167 = .ok (.ifCond .eq 107, 3) := by decide +kernel
theorem dX12_token_170 : decode cX12_token 170 = .ok (.aload_n 0, 1) := by decide +kernel
theorem dX12_token_171 : decode cX12_token 171 = .ok (.iconst 0, 1) := by decide +kernel
theorem dX12_token_172 : decode cX12_token 172 = .ok (.putfield 63, 3) := by decide +kernel
theorem dX12_token_175 : decode cX12_token 175 = .ok (.aload_n 0, 1) := by decide +kernel
theorem dX12_token_176 : decode cX12_token 176 = .ok (.getfield 54, 3) := by decide +kernel
theorem dX12_token_179 : decode cX12_token 179 = .ok (.aload_n 0, 1) := by decide +kernel
theorem dX12_token_180 : decode cX12_token 180 = .ok (.getfield 27, 3) := by decide +kernel
theorem dX12_token_183 : decode cX12_token 183 = .ok (.if_icmp .ge 68, 3) := by decide +kernel
theorem dX12_token_186 : decode cX12_token 186 = .ok (.aload_n 0, 1) := by decide +kernel
theorem dX12_token_187 : decode cX12_token 187 = .ok (.getfield 24, 3) := by decide +kernel
theorem dX12_token_190 : decode cX12_token 190 = .ok (.aload_n 0, 1) := by decide +kernel
theorem dX12_token_191 : decode cX12_token 191 = .ok (.getfield 54, 3) := by decide +kernel
theorem dX12_token_194 : decode cX12_token 194 = .ok (.iaload, 1) := by decide +kernel
theorem dX12_token_195 : decode cX12_token 195 = .ok (.invokestatic 177, 3) := by decide +kernel
theorem dX12_token_198 : decode cX12_token 198 = .ok (.ifCond .eq 53, 3) := by decide +kernel
theorem dX12_token_201 : decode cX12_token 201 = .ok (.aload_n 0, 1) := by decide +kernel
theorem dX12_token_202 : decode cX12_token 202 = .ok (.getfield 54, 3) := by decide +kernel
theorem dX12_token_205 : decode cX12_token 205 = .ok (.aload_n 0, 1) := by decide +kernel
theorem dX12_token_206 : decode cX12_token 206 = .ok (.getfield 60, 3) := by decide +kernel
theorem dX12_token_209 : decode cX12_token 209 = .ok (.isub, 1) := by decide +kernel
theorem dX12_token_210 : decode cX12_token 210 = .ok (.iconst 3, 1) := by decide +kernel
theorem dX12_token_211 : decode cX12_token 211 = .ok (.if_icmp .ge 27, 3) := by decide +kernel
theorem dX12_token_214 : decode cX12_token 214 = .ok (.aload_n 0, 1) := by decide +kernel
theorem dX12_token_215 : decode cX12_token 215 = .ok (.aload_n 0, 1) := by decide +kernel
theorem dX12_token_216 : decode cX12_token 216 = .ok (.getfield 63, 3) := by decide +kernel
theorem dX12_token_219 : decode cX12_token 219 = .ok (.bipush 10, 2) := by decide +kernel
theorem dX12_token_221 : decode cX12_token 221 = .ok (.imul, 1) := by decide +kernel
theorem dX12_token_222 : decode cX12_token 222 = .ok (.aload_n 0, 1) := by decide +kernel
theorem dX12_token_223 : decode cX12_token 223 = .ok (.getfield 24, 3) := by decide +kernel
theorem dX12_token_226 : decode cX12_token 226 = .ok (.aload_n 0, 1) := by decide +kernel
theorem dX12_token_227 : decode cX12_token 227 = .ok (.getfield 54, 3) := by decide +kernel
theorem dX12_token_230 : decode cX12_token 230 = .ok (.iaload, 1) := by decide +kernel
theorem dX12_token_231 : decode cX12_token 231 = .ok (.iadd, 1) := by decide +kernel
theorem dX12_token_232 : decode cX12_token 232 = .ok (.bipush 48, 2) := by decide +kernel
theorem dX12_token_234 : decode cX12_token 234 = .ok (.isub, 1) := by decide +kernel
theorem dX12_token_235 : decode cX12_token 235 = .ok (.putfield 63, 3) := by decide +kernel
theorem dX12_token_238 : decode cX12_token 238 = .ok (.aload_n 0, 1) := by decide +kernel
theorem dX12_token_239 : decode cX12_token 239 = .ok (.dup, 1) := by decide +kernel
theorem dX12_token_240 : decode cX12_token 240 = .ok (.getfield 54, 3) := by decide +kernel
theorem dX12_token_243 : decode cX12_token 243 = .ok (.iconst 1, 1) := by decide +kernel
theorem dX12_token_244 : decode cX12_token 244 = .ok (.iadd, 1) := by decide +kernel
theorem dX12_token_245 : decode cX12_token 245 = .ok (.putfield 54, 3) := by decide +kernel
theorem dX12_token_248 : decode cX12_token 248 = .ok (.goto (-73), 3) := by decide +kernel
theorem dX12_token_251 : decode cX12_token 251 = .ok (.aload_n 0, 1) := by decide +kernel
theorem dX12_token_252 : decode cX12_token 252 = .ok (.aload_n 0, 1) := by decide +kernel
theorem dX12_token_253 : decode cX12_token 253 = .ok (.getfield 54, 3) := by decide +kernel
theorem dX12_token_256 : decode cX12_token 256 = .ok (.aload_n 0, 1) := by decide +kernel
theorem dX12_token_257 : decode cX12_token 257 = .ok (.getfield 60, 3) := by decide +kernel
theorem dX12_token_260 : decode cX12_token 260 = .ok (.isub, 1) := by decide +kernel
theorem dX12_token_261 : decode cX12_token 261 = .ok (.iconst 3, 1) := by decide +kernel
theorem dX12_token_262 : decode cX12_token 262 = .ok (.if_icmp .le 7, 3) := by decide +kernel
theorem dX12_token_265 : decode cX12_token 265 = .ok (.iconst 4, 1) := by decide +kernel
theorem dX12_token_266 : decode cX12_token 266 = .ok (.goto 4, 3) := by decide +kernel
theorem dX12_token_269 : decode cX12_token 269 = .ok (.iconst 2, 1) := by decide +kernel
theorem dX12_token_270 : decode cX12_token 270 = .ok (.putfield 57, 3) := by decide +kernel
theorem dX12_token_273 : decode cX12_token 273 = .ok (.return_, 1) := by decide +kernel
theorem dX12_token_274 : decode cX12_token 274 = .ok (.aload_n 0, 1) := by decide +kernel
theorem dX12_token_275 : decode cX12_token 275 = .ok (.aload_n 0, 1) := by decide +kernel
theorem dX12_token_276 : decode cX12_token 276 = .ok (.getfield 24, 3) := by decide +kernel
theorem dX12_token_279 : decode cX12_token 279 = .ok (.aload_n 0, 1) := by decide +kernel
theorem dX12_token_280 : decode cX12_token 280 = .ok (.getfield 54, 3) := by decide +kernel
theorem dX12_token_283 : decode cX12_token 283 = .ok (.iaload, 1) := by decide +kernel
theorem dX12_token_284 : decode cX12_token 284 = .ok (.bipush 59, 2) := by decide +kernel
theorem dX12_token_286 : decode cX12_token 286 = .ok (.if_icmp .ne 7, 3) := by decide +kernel
theorem dX12_token_289 : decode cX12_token 289 = .ok (.iconst 3, 1) := by decide +kernel
theorem dX12_token_290 : decode cX12_token 290 = .ok (.goto 4, 3) := by decide +kernel
theorem dX12_token_293 : decode cX12_token 293 = .ok (.iconst 4, 1) := by decide +kernel
theorem dX12_token_294 : decode cX12_token 294 = .ok (.putfield 57, 3) := by decide +kernel
theorem dX12_token_297 : decode cX12_token 297 = .ok (.aload_n 0, 1) := by decide +kernel
theorem dX12_token_298 : decode cX12_token 298 = .ok (.dup, 1) := by decide +kernel
theorem dX12_token_299 : decode cX12_token 299 = .ok (.getfield 54, 3) := by decide +kernel
theorem dX12_token_302 : decode cX12_token 302 = .ok (.iconst 1, 1) := by decide +kernel
theorem dX12_token_303 : decode cX12_token 303 = .ok (.iadd, 1) := by decide +kernel
theorem dX12_token_304 : decode cX12_token 304 = .ok (.putfield 54, 3) := by decide +kernel
theorem dX12_token_307 : decode cX12_token 307 = .ok (.return_, 1) := by decide +kernel
set_option maxRecDepth 20000 in
theorem ggX12_begin_X12_token : GoodIn wsX12_begin wsX12_token := goodIn_r _ [8, 3, 9, 10, 11, 12, 13, 14, 15, 7, 16, 17, 18, 19, 20, 21, 22, 23, 24, 25, 26, 27, 28, 29, 30, 31, 32, 33, 34, 35, 36, 37, 38] rfl (by decide +kernel)
set_option maxRecDepth 20000 in
theorem gX12_begin_X12_token : GoodIn wsX12_begin (wsV RX12 180 RX12 yX12_token wsX12_token) := goodIn_app (goodIn_of _ (by decide +kernel)) ggX12_begin_X12_token
theorem dX12_begin_0 : decode cX12_begin 0 = .ok (.aload_n 0, 1) := by decide +kernel
theorem dX12_begin_1 : decode cX12_begin 1 = .ok (.iconst 0, 1) := by decide +kernel
theorem dX12_begin_2 : decode cX12_begin 2 = .ok (.putfield 30, 3) := by decide +kernel
theorem dX12_begin_5 : decode cX12_begin 5 = .ok (.aload_n 0, 1) := by decide +kernel
theorem dX12_begin_6 : decode cX12_begin 6 = .ok (.iconst (-1), 1) := by decide +kernel
theorem dX12_begin_7 : decode cX12_begin 7 = .ok (.putfield 33, 3) := by decide +kernel
theorem dX12_begin_10 : decode cX12_begin 10 = .ok (.aload_n 0, 1) := by decide +kernel
theorem dX12_begin_11 : decode cX12_begin 11 = .ok (.iconst 0, 1) := by decide +kernel
theorem dX12_begin_12 : decode cX12_begin 12 = .ok (.putfield 54, 3) := by decide +kernel
theorem dX12_begin_15 : decode cX12_begin 15 = .ok (.aload_n 0, 1) := by decide +kernel
theorem dX12_begin_16 : decode cX12_begin 16 = .ok (.invokevirtual 180, 3) := by decide +kernel
theorem dX12_begin_19 : decode cX12_begin 19 = .ok (.return_, 1) := by decide +kernel
theorem dX12_wrong_0 : decode cX12_wrong 0 = .ok (.aload_n 0, 1) := by decide +kernel
theorem dX12_wrong_1 : decode cX12_wrong 1 = .ok (.iload_n 1, 1) := by decide +kernel
theorem dX12_wrong_2 : decode cX12_wrong 2 = .ok (.putfield 30, 3) := by decide +kernel
theorem dX12_wrong_5 : decode cX12_wrong 5 = .ok (.aload_n 0, 1) := by decide +kernel
theorem dX12_wrong_6 : decode cX12_wrong 6 = .ok (.aload_n 0, 1) := by decide +kernel
theorem dX12_wrong_7 : decode cX12_wrong 7 = .ok (.getfield 60, 3) := by decide +kernel
theorem dX12_wrong_10 : decode cX12_wrong 10 = .ok (.putfield 33, 3) := by decide +kernel
theorem dX12_wrong_13 : decode cX12_wrong 13 = .ok (.iconst 0, 1) := by decide +kernel
theorem dX12_wrong_14 : decode cX12_wrong 14 = .ok (.ireturn, 1) := by decide +kernel
set_option maxRecDepth 20000 in
theorem ggX12_isWord_J0_length_8abf5 : GoodIn wsX12_isWord wsJ0_length_8abf5 := goodIn_r _ [9, 10, 11, 12, 13, 8, 14, 15, 16] rfl (by decide +kernel)
set_option maxRecDepth 20000 in
theorem gX12_isWord_J0_length_8abf5 : GoodIn wsX12_isWord (wsV RX12 71 RJ0 yJ0_length_8abf5 wsJ0_length_8abf5) := goodIn_app (goodIn_of _ (by decide +kernel)) ggX12_isWord_J0_length_8abf5
set_option maxRecDepth 20000 in
theorem ggX12_isWord_J0_charAt_5068e : GoodIn wsX12_isWord wsJ0_charAt_5068e := goodIn_r _ [20, 10, 21, 22, 23, 8, 24, 15, 16, 25, 26, 27, 28, 29, 30, 31, 32, 33, 34, 35, 36, 37, 38, 39, 40, 41, 42, 43, 44, 45, 46, 47, 48, 49, 50, 51, 52, 53] rfl (by decide +kernel)
set_option maxRecDepth 20000 in
theorem gX12_isWord_J0_charAt_5068e : GoodIn wsX12_isWord (wsV RX12 76 RJ0 yJ0_charAt_5068e wsJ0_charAt_5068e) := goodIn_app (goodIn_of _ (by decide +kernel)) ggX12_isWord_J0_charAt_5068e
theorem dX12_isWord_0 : decode cX12_isWord 0 = .ok (.aload_n 0, 1) := by decide +kernel
theorem dX12_isWord_1 : decode cX12_isWord 1 = .ok (.getfield 57, 3) := by decide +kernel
theorem dX12_isWord_4 : decode cX12_isWord 4 = .ok (.iconst 1, 1) := by decide +kernel
theorem dX12_isWord_5 : decode cX12_isWord 5 = .ok (.if_icmp .ne 19, 3) := by decide +kernel
theorem dX12_isWord_8 : decode cX12_isWord 8 = .ok (.aload_n 0, 1) := by decide +kernel
theorem dX12_isWord_9 : decode cX12_isWord 9 = .ok (.getfield 54, 3) := by decide +kernel
theorem dX12_isWord_12 : decode cX12_isWord 12 = .ok (.aload_n 0, 1) := by decide +kernel
theorem dX12_isWord_13 : decode cX12_isWord 13 = .ok (.getfield 60, 3) := by decide +kernel
theorem dX12_isWord_16 : decode cX12_isWord 16 = .ok (.isub, 1) := by decide +kernel
theorem dX12_isWord_17 : decode cX12_isWord 17 = .ok (.aload_n 1, 1) := by decide +kernel
theorem dX12_isWord_18 : decode cX12_isWord 18 = .ok (.invokevirtual 71, 3) := by decide +kernel
theorem dX12_isWord_21 : decode cX12_isWord 21 = .ok (.if_icmp .eq 5, 3) := by decide +kernel
theorem dX12_isWord_24 : decode cX12_isWord 24 = .ok (.iconst 0, 1) := by decide +kernel
theorem dX12_isWord_25 : decode cX12_isWord 25 = .ok (.ireturn, 1) := by decide +kernel
theorem dX12_isWord_26 : decode cX12_isWord 26 = .ok (.iconst 0, 1) := by decide +kernel
theorem dX12_isWord_27 : decode cX12_isWord 27 = .ok (.istore_n 2, 1) := by decide +kernel
theorem dX12_isWord_28 : decode cX12_isWord 28 = .ok (.iload_n 2, 1) := by decide +kernel
theorem dX12_isWord_29 : decode cX12_isWord 29 = .ok (.aload_n 1, 1) := by decide +kernel
theorem dX12_isWord_30 : decode cX12_isWord 30 = .ok (.invokevirtual 71, 3) := by decide +kernel
theorem dX12_isWord_33 : decode cX12_isWord 33 = .ok (.if_icmp .ge 30, 3) := by decide +kernel
theorem dX12_isWord_36 : decode cX12_isWord 36 = .ok (.aload_n 0, 1) := by decide +kernel
theorem dX12_isWord_37 : decode cX12_isWord 37 = .ok (.getfield 24, 3) := by decide +kernel
theorem dX12_isWord_40 : decode cX12_isWord 40 = .ok (.aload_n 0, 1) := by decide +kernel
theorem dX12_isWord_41 : decode cX12_isWord 41 = .ok (.getfield 60, 3) := by decide +kernel
theorem dX12_isWord_44 : decode cX12_isWord 44 = .ok (.iload_n 2, 1) := by decide +kernel
theorem dX12_isWord_45 : decode cX12_isWord 45 = .ok (.iadd, 1) := by decide +kernel
theorem dX12_isWord_46 : decode cX12_isWord 46 = .ok (.iaload, 1) := by decide +kernel
theorem dX12_isWord_47 : decode cX12_isWord 47 = .ok (.aload_n 1, 1) := by decide +kernel
theorem dX12_isWord_48 : decode cX12_isWord 48 = .ok (.iload_n 2, 1) := by decide +kernel
theorem dX12_isWord_49 : decode cX12_isWord 49 = .ok (.invokevirtual 76, 3) := by decide +kernel
theorem dX12_isWord_52 : decode cX12_isWord 52 = .ok (.if_icmp .eq 5, 3) := by decide +kernel
theorem dX12_isWord_55 : decode cX12_isWord 55 = .ok (.iconst 0, 1) := by decide +kernel
theorem dX12_isWord_56 : decode cX12_isWord 56 = .ok (.ireturn, 1) := by decide +kernel
theorem dX12_isWord_57 : decode cX12_isWord 57 = .ok (.iinc 2 1, 3) := by decide +kernel
theorem dX12_isWord_60 : decode cX12_isWord 60 = .ok (.goto (-32), 3) := by decide +kernel
theorem dX12_isWord_63 : decode cX12_isWord 63 = .ok (.iconst 1, 1) := by decide +kernel
theorem dX12_isWord_64 : decode cX12_isWord 64 = .ok (.ireturn, 1) := by decide +kernel
set_option maxRecDepth 20000 in
theorem ggX12_takes_X12_isWord : GoodIn wsX12_takes wsX12_isWord := goodIn_r _ [5, 6, 7, 8, 9, 10, 11, 12, 13, 14, 15, 16, 17, 18, 19, 20, 21, 22, 23, 24, 25, 26, 27, 28, 29, 30, 31, 32, 33, 34, 35, 36, 37, 38, 39, 40, 41, 42, 43, 44, 45, 46, 47, 48, 49, 50, 51, 52, 53, 54, 55, 56, 57, 58, 71, 72, 73, 74, 75, 76, 77, 78, 79, 80, 81, 82, 83, 84, 85, 86, 87, 88, 89] rfl (by decide +kernel)
set_option maxRecDepth 20000 in
theorem gX12_takes_X12_isWord : GoodIn wsX12_takes (wsV RX12 183 RX12 yX12_isWord wsX12_isWord) := goodIn_app (goodIn_of _ (by decide +kernel)) ggX12_takes_X12_isWord
set_option maxRecDepth 20000 in
theorem ggX12_takes_X12_token : GoodIn wsX12_takes wsX12_token := goodIn_r _ [62, 7, 63, 9, 8, 6, 64, 65, 66, 4, 67, 68, 69, 70, 71, 72, 73, 74, 75, 76, 77, 78, 79, 80, 81, 82, 83, 84, 85, 86, 87, 88, 89] rfl (by decide +kernel)
set_option maxRecDepth 20000 in
theorem gX12_takes_X12_token : GoodIn wsX12_takes (wsV RX12 180 RX12 yX12_token wsX12_token) := goodIn_app (goodIn_of _ (by decide +kernel)) ggX12_takes_X12_token
theorem dX12_takes_0 : decode cX12_takes 0 = .ok (.aload_n 0, 1) := by decide +kernel
theorem dX12_takes_1 : decode cX12_takes 1 = .ok (.aload_n 1, 1) := by decide +kernel
theorem dX12_takes_2 : decode cX12_takes 2 = .ok (.invokevirtual 183, 3) := by decide +kernel
theorem dX12_takes_5 : decode cX12_takes 5 = .ok (.ifCond .ne 5, 3) := by decide +kernel
theorem dX12_takes_8 : decode cX12_takes 8 = .ok (.iconst 0, 1) := by decide +kernel
theorem dX12_takes_9 : decode cX12_takes 9 = .ok (.ireturn, 1) := by decide +kernel
theorem dX12_takes_10 : decode cX12_takes 10 = .ok (.aload_n 0, 1) := by decide +kernel
theorem dX12_takes_11 : decode cX12_takes 11 = .ok (.invokevirtual 180, 3) := by decide +kernel
theorem dX12_takes_14 : decode cX12_takes 14 = .ok (.iconst 1, 1) := by decide +kernel
theorem dX12_takes_15 : decode cX12_takes 15 = .ok (.ireturn, 1) := by decide +kernel
set_option maxRecDepth 20000 in
theorem ggX12_semicolon_X12_wrong : GoodIn wsX12_semicolon wsX12_wrong := goodIn_r _ [6, 7, 8, 9, 24, 25, 26, 27, 28, 29, 30, 31, 32, 33, 34, 35, 36, 37, 38, 39, 40, 41, 42] rfl (by decide +kernel)
set_option maxRecDepth 20000 in
theorem gX12_semicolon_X12_wrong : GoodIn wsX12_semicolon (wsV RX12 187 RX12 yX12_wrong wsX12_wrong) := goodIn_app (goodIn_of _ (by decide +kernel)) ggX12_semicolon_X12_wrong
set_option maxRecDepth 20000 in
theorem ggX12_semicolon_X12_token : GoodIn wsX12_semicolon wsX12_token := goodIn_r _ [13, 14, 15, 16, 8, 1, 17, 18, 19, 5, 20, 21, 22, 23, 24, 25, 26, 27, 28, 29, 30, 31, 32, 33, 34, 35, 36, 37, 38, 39, 40, 41, 42] rfl (by decide +kernel)
set_option maxRecDepth 20000 in
theorem gX12_semicolon_X12_token : GoodIn wsX12_semicolon (wsV RX12 180 RX12 yX12_token wsX12_token) := goodIn_app (goodIn_of _ (by decide +kernel)) ggX12_semicolon_X12_token
theorem dX12_semicolon_0 : decode cX12_semicolon 0 = .ok (.aload_n 0, 1) := by decide +kernel
theorem dX12_semicolon_1 : decode cX12_semicolon 1 = .ok (.getfield 57, 3) := by decide +kernel
theorem dX12_semicolon_4 : decode cX12_semicolon 4 = .ok (.iconst 3, 1) := by decide +kernel
theorem dX12_semicolon_5 : decode cX12_semicolon 5 = .ok (.if_icmp .eq 9, 3) := by decide +kernel
theorem dX12_semicolon_8 : decode cX12_semicolon 8 = .ok (.aload_n 0, 1) := by decide +kernel
theorem dX12_semicolon_9 : decode cX12_semicolon 9 = .ok (.iconst 1, 1) := by decide +kernel
theorem dX12_semicolon_10 : decode cX12_semicolon 10 = .ok (.invokevirtual 187, 3) := by decide +kernel
theorem dX12_semicolon_13 : decode cX12_semicolon 13 = .ok (.ireturn, 1) := by decide +kernel
theorem dX12_semicolon_14 : decode cX12_semicolon 14 = .ok (.aload_n 0, 1) := by decide +kernel
theorem dX12_semicolon_15 : decode cX12_semicolon 15 = .ok (.invokevirtual 180, 3) := by decide +kernel
theorem dX12_semicolon_18 : decode cX12_semicolon 18 = .ok (.iconst 1, 1) := by decide +kernel
theorem dX12_semicolon_19 : decode cX12_semicolon 19 = .ok (.ireturn, 1) := by decide +kernel
theorem dX12_isNamed_0 : decode cX12_isNamed 0 = .ok (.aload_n 0, 1) := by decide +kernel
theorem dX12_isNamed_1 : decode cX12_isNamed 1 = .ok (.getfield 13, 3) := by decide +kernel
theorem dX12_isNamed_4 : decode cX12_isNamed 4 = .ok (.iload_n 1, 1) := by decide +kernel
theorem dX12_isNamed_5 : decode cX12_isNamed 5 = .ok (.iaload, 1) := by decide +kernel
theorem dX12_isNamed_6 : decode cX12_isNamed 6 = .ok (.iload_n 3, 1) := by decide +kernel
theorem dX12_isNamed_7 : decode cX12_isNamed 7 = .ok (.if_icmp .eq 5, 3) := by decide +kernel
theorem dX12_isNamed_10 : decode cX12_isNamed 10 = .ok (.iconst 0, 1) := by decide +kernel
theorem dX12_isNamed_11 : decode cX12_isNamed 11 = .ok (.ireturn, 1) := by decide +kernel
theorem dX12_isNamed_12 : decode cX12_isNamed 12 = .ok (.iconst 0, 1) := by decide +kernel
theorem dX12_isNamed_13 : decode cX12_isNamed 13 = .ok (.istore 4, 2) := by decide +kernel
theorem dX12_isNamed_15 : decode cX12_isNamed 15 = .ok (.iload 4, 2) := by decide +kernel
theorem dX12_isNamed_17 : decode cX12_isNamed 17 = .ok (.iload_n 3, 1) := by decide +kernel
theorem dX12_isNamed_18 : decode cX12_isNamed 18 = .ok (.if_icmp .ge 34, 3) := by decide +kernel
theorem dX12_isNamed_21 : decode cX12_isNamed 21 = .ok (.aload_n 0, 1) := by decide +kernel
theorem dX12_isNamed_22 : decode cX12_isNamed 22 = .ok (.getfield 13, 3) := by decide +kernel
theorem dX12_isNamed_25 : decode cX12_isNamed 25 = .ok (.iload_n 1, 1) := by decide +kernel
theorem dX12_isNamed_26 : decode cX12_isNamed 26 = .ok (.iconst 1, 1) := by decide +kernel
theorem dX12_isNamed_27 : decode cX12_isNamed 27 = .ok (.iadd, 1) := by decide +kernel
theorem dX12_isNamed_28 : decode cX12_isNamed 28 = .ok (.iload 4, 2) := by decide +kernel
theorem dX12_isNamed_30 : decode cX12_isNamed 30 = .ok (.iadd, 1) := by decide +kernel
theorem dX12_isNamed_31 : decode cX12_isNamed 31 = .ok (.iaload, 1) := by decide +kernel
theorem dX12_isNamed_32 : decode cX12_isNamed 32 = .ok (.aload_n 0, 1) := by decide +kernel
theorem dX12_isNamed_33 : decode cX12_isNamed 33 = .ok (.getfield 24, 3) := by decide +kernel
theorem dX12_isNamed_36 : decode cX12_isNamed 36 = .ok (.iload_n 2, 1) := by decide +kernel
theorem dX12_isNamed_37 : decode cX12_isNamed 37 = .ok (.iload 4, 2) := by decide +kernel
theorem dX12_isNamed_39 : decode cX12_isNamed 39 = .ok (.iadd, 1) := by decide +kernel
theorem dX12_isNamed_40 : decode cX12_isNamed 40 = .ok (.iaload, 1) := by decide +kernel
theorem dX12_isNamed_41 : decode cX12_isNamed 41 = .ok (.if_icmp .eq 5, 3) := by decide +kernel
theorem dX12_isNamed_44 : decode cX12_isNamed 44 = .ok (.iconst 0, 1) := by decide +kernel
theorem dX12_isNamed_45 : decode cX12_isNamed 45 = .ok (.ireturn, 1) := by decide +kernel
theorem dX12_isNamed_46 : decode cX12_isNamed 46 = .ok (.iinc 4 1, 3) := by decide +kernel
theorem dX12_isNamed_49 : decode cX12_isNamed 49 = .ok (.goto (-34), 3) := by decide +kernel
theorem dX12_isNamed_52 : decode cX12_isNamed 52 = .ok (.iconst 1, 1) := by decide +kernel
theorem dX12_isNamed_53 : decode cX12_isNamed 53 = .ok (.ireturn, 1) := by decide +kernel
set_option maxRecDepth 20000 in
theorem ggX12_panNamed_X12_isNamed : GoodIn wsX12_panNamed wsX12_isNamed := goodIn_r _ [6, 1, 7, 8, 9, 10, 11, 12, 13, 14, 15, 16, 17, 18, 19, 20, 21, 22, 23, 24, 25, 26] rfl (by decide +kernel)
set_option maxRecDepth 20000 in
theorem gX12_panNamed_X12_isNamed : GoodIn wsX12_panNamed (wsV RX12 190 RX12 yX12_isNamed wsX12_isNamed) := goodIn_app (goodIn_of _ (by decide +kernel)) ggX12_panNamed_X12_isNamed
theorem dX12_panNamed_0 : decode cX12_panNamed 0 = .ok (.iconst 0, 1) := by decide +kernel
theorem dX12_panNamed_1 : decode cX12_panNamed 1 = .ok (.istore_n 3, 1) := by decide +kernel
theorem dX12_panNamed_2 : decode cX12_panNamed 2 = .ok (.iload_n 3, 1) := by decide +kernel
theorem dX12_panNamed_3 : decode cX12_panNamed 3 = .ok (.aload_n 0, 1) := by decide +kernel
theorem dX12_panNamed_4 : decode cX12_panNamed 4 = .ok (.getfield 13, 3) := by decide +kernel
theorem dX12_panNamed_7 : decode cX12_panNamed 7 = .ok (.bipush 12, 2) := by decide +kernel
theorem dX12_panNamed_9 : decode cX12_panNamed 9 = .ok (.iaload, 1) := by decide +kernel
theorem dX12_panNamed_10 : decode cX12_panNamed 10 = .ok (.if_icmp .ge 27, 3) := by decide +kernel
theorem dX12_panNamed_13 : decode cX12_panNamed 13 = .ok (.aload_n 0, 1) := by decide +kernel
theorem dX12_panNamed_14 : decode cX12_panNamed 14 = .ok (.bipush 14, 2) := by decide +kernel
theorem dX12_panNamed_16 : decode cX12_panNamed 16 = .ok (.iload_n 3, 1) := by decide +kernel
theorem dX12_panNamed_17 : decode cX12_panNamed 17 = .ok (.bipush 8, 2) := by decide +kernel
theorem dX12_panNamed_19 : decode cX12_panNamed 19 = .ok (.imul, 1) := by decide +kernel
theorem dX12_panNamed_20 : decode cX12_panNamed 20 = .ok (.iadd, 1) := by decide +kernel
theorem dX12_panNamed_21 : decode cX12_panNamed 21 = .ok (.iload_n 1, 1) := by decide +kernel
theorem dX12_panNamed_22 : decode cX12_panNamed 22 = .ok (.iload_n 2, 1) := by decide +kernel
theorem dX12_panNamed_23 : decode cX12_panNamed 23 = .ok (.invokevirtual 190, 3) := by decide +kernel
theorem dX12_panNamed_26 : decode cX12_panNamed 26 = .ok (.ifCond .eq 5, 3) := by decide +kernel
theorem dX12_panNamed_29 : decode cX12_panNamed 29 = .ok (.iload_n 3, 1) := by decide +kernel
theorem dX12_panNamed_30 : decode cX12_panNamed 30 = .ok (.ireturn, 1) := by decide +kernel
theorem dX12_panNamed_31 : decode cX12_panNamed 31 = .ok (.iinc 3 1, 3) := by decide +kernel
theorem dX12_panNamed_34 : decode cX12_panNamed 34 = .ok (.goto (-32), 3) := by decide +kernel
theorem dX12_panNamed_37 : decode cX12_panNamed 37 = .ok (.iconst (-1), 1) := by decide +kernel
theorem dX12_panNamed_38 : decode cX12_panNamed 38 = .ok (.ireturn, 1) := by decide +kernel
set_option maxRecDepth 20000 in
theorem ggX12_stepNamed_X12_isNamed : GoodIn wsX12_stepNamed wsX12_isNamed := goodIn_r _ [6, 1, 7, 8, 9, 10, 11, 12, 13, 14, 15, 16, 17, 18, 19, 20, 21, 22, 23, 24, 25, 26] rfl (by decide +kernel)
set_option maxRecDepth 20000 in
theorem gX12_stepNamed_X12_isNamed : GoodIn wsX12_stepNamed (wsV RX12 190 RX12 yX12_isNamed wsX12_isNamed) := goodIn_app (goodIn_of _ (by decide +kernel)) ggX12_stepNamed_X12_isNamed
theorem dX12_stepNamed_0 : decode cX12_stepNamed 0 = .ok (.iconst 0, 1) := by decide +kernel
theorem dX12_stepNamed_1 : decode cX12_stepNamed 1 = .ok (.istore_n 3, 1) := by decide +kernel
theorem dX12_stepNamed_2 : decode cX12_stepNamed 2 = .ok (.iload_n 3, 1) := by decide +kernel
theorem dX12_stepNamed_3 : decode cX12_stepNamed 3 = .ok (.aload_n 0, 1) := by decide +kernel
theorem dX12_stepNamed_4 : decode cX12_stepNamed 4 = .ok (.getfield 13, 3) := by decide +kernel
theorem dX12_stepNamed_7 : decode cX12_stepNamed 7 = .ok (.bipush 13, 2) := by decide +kernel
theorem dX12_stepNamed_9 : decode cX12_stepNamed 9 = .ok (.iaload, 1) := by decide +kernel
theorem dX12_stepNamed_10 : decode cX12_stepNamed 10 = .ok (.if_icmp .ge 27, 3) := by decide +kernel
theorem dX12_stepNamed_13 : decode cX12_stepNamed 13 = .ok (.aload_n 0, 1) := by decide +kernel
theorem dX12_stepNamed_14 : decode cX12_stepNamed 14 = .ok (.bipush 46, 2) := by decide +kernel
theorem dX12_stepNamed_16 : decode cX12_stepNamed 16 = .ok (.iload_n 3, 1) := by decide +kernel
theorem dX12_stepNamed_17 : decode cX12_stepNamed 17 = .ok (.bipush 24, 2) := by decide +kernel
theorem dX12_stepNamed_19 : decode cX12_stepNamed 19 = .ok (.imul, 1) := by decide +kernel
theorem dX12_stepNamed_20 : decode cX12_stepNamed 20 = .ok (.iadd, 1) := by decide +kernel
theorem dX12_stepNamed_21 : decode cX12_stepNamed 21 = .ok (.iload_n 1, 1) := by decide +kernel
theorem dX12_stepNamed_22 : decode cX12_stepNamed 22 = .ok (.iload_n 2, 1) := by decide +kernel
theorem dX12_stepNamed_23 : decode cX12_stepNamed 23 = .ok (.invokevirtual 190, 3) := by decide +kernel
theorem dX12_stepNamed_26 : decode cX12_stepNamed 26 = .ok (.ifCond .eq 5, 3) := by decide +kernel
theorem dX12_stepNamed_29 : decode cX12_stepNamed 29 = .ok (.iload_n 3, 1) := by decide +kernel
theorem dX12_stepNamed_30 : decode cX12_stepNamed 30 = .ok (.ireturn, 1) := by decide +kernel
theorem dX12_stepNamed_31 : decode cX12_stepNamed 31 = .ok (.iinc 3 1, 3) := by decide +kernel
theorem dX12_stepNamed_34 : decode cX12_stepNamed 34 = .ok (.goto (-32), 3) := by decide +kernel
theorem dX12_stepNamed_37 : decode cX12_stepNamed 37 = .ok (.iconst (-1), 1) := by decide +kernel
theorem dX12_stepNamed_38 : decode cX12_stepNamed 38 = .ok (.ireturn, 1) := by decide +kernel
set_option maxRecDepth 20000 in
theorem ggX12_isShortWord_X12_wrong : GoodIn wsX12_isShortWord wsX12_wrong := goodIn_r _ [8, 9, 3, 10, 11, 12, 13, 14, 15, 16, 17, 18, 19, 20, 21, 22, 23, 24, 25, 26, 27, 28, 29] rfl (by decide +kernel)
set_option maxRecDepth 20000 in
theorem gX12_isShortWord_X12_wrong : GoodIn wsX12_isShortWord (wsV RX12 187 RX12 yX12_wrong wsX12_wrong) := goodIn_app (goodIn_of _ (by decide +kernel)) ggX12_isShortWord_X12_wrong
theorem dX12_isShortWord_0 : decode cX12_isShortWord 0 = .ok (.aload_n 0, 1) := by decide +kernel
theorem dX12_isShortWord_1 : decode cX12_isShortWord 1 = .ok (.getfield 57, 3) := by decide +kernel
theorem dX12_isShortWord_4 : decode cX12_isShortWord 4 = .ok (.iconst 1, 1) := by decide +kernel
theorem dX12_isShortWord_5 : decode cX12_isShortWord 5 = .ok (.if_icmp .eq 9, 3) := by decide +kernel
theorem dX12_isShortWord_8 : decode cX12_isShortWord 8 = .ok (.aload_n 0, 1) := by decide +kernel
theorem dX12_isShortWord_9 : decode cX12_isShortWord 9 = .ok (.iconst 1, 1) := by decide +kernel
theorem dX12_isShortWord_10 : decode cX12_isShortWord 10 = .ok (.invokevirtual 187, 3) := by decide +kernel
theorem dX12_isShortWord_13 : decode cX12_isShortWord 13 = .ok (.ireturn, 1) := by decide +kernel
theorem dX12_isShortWord_14 : decode cX12_isShortWord 14 = .ok (.aload_n 0, 1) := by decide +kernel
theorem dX12_isShortWord_15 : decode cX12_isShortWord 15 = .ok (.getfield 54, 3) := by decide +kernel
theorem dX12_isShortWord_18 : decode cX12_isShortWord 18 = .ok (.aload_n 0, 1) := by decide +kernel
theorem dX12_isShortWord_19 : decode cX12_isShortWord 19 = .ok (.getfield 60, 3) := by decide +kernel
theorem dX12_isShortWord_22 : decode cX12_isShortWord 22 = .ok (.isub, 1) := by decide +kernel
theorem dX12_isShortWord_23 : decode cX12_isShortWord 23 = .ok (.bipush 6, 2) := by decide +kernel
theorem dX12_isShortWord_25 : decode cX12_isShortWord 25 = .ok (.if_icmp .le 11, 3) := by decide +kernel
theorem dX12_isShortWord_28 : decode cX12_isShortWord 28 = .ok (.aload_n 0, 1) := by decide +kernel
theorem dX12_isShortWord_29 : decode cX12_isShortWord 29 = .ok (.iconst 3, 1) := by decide +kernel
theorem dX12_isShortWord_30 : decode cX12_isShortWord 30 = .ok (.invokevirtual 187, 3) := by decide +kernel
theorem dX12_isShortWord_33 : decode cX12_isShortWord 33 = .ok (.ifCond .eq 7, 3) := by decide +kernel
theorem dX12_isShortWord_36 : decode cX12_isShortWord 36 = .ok (.iconst 1, 1) := by decide +kernel
theorem dX12_isShortWord_37 : decode cX12_isShortWord 37 = .ok (.goto 4, 3) := by decide +kernel
theorem dX12_isShortWord_40 : decode cX12_isShortWord 40 = .ok (.iconst 0, 1) := by decide +kernel
theorem dX12_isShortWord_41 : decode cX12_isShortWord 41 = .ok (.ireturn, 1) := by decide +kernel
set_option maxRecDepth 20000 in
theorem ggX12_parseRanged_X12_wrong : GoodIn wsX12_parseRanged wsX12_wrong := goodIn_r _ [8, 9, 10, 11, 28, 29, 30, 31, 32, 33, 34, 35, 36, 37, 38, 39, 40, 41, 42, 43, 44, 45, 46] rfl (by decide +kernel)
set_option maxRecDepth 20000 in
theorem gX12_parseRanged_X12_wrong : GoodIn wsX12_parseRanged (wsV RX12 187 RX12 yX12_wrong wsX12_wrong) := goodIn_app (goodIn_of _ (by decide +kernel)) ggX12_parseRanged_X12_wrong
set_option maxRecDepth 20000 in
theorem ggX12_parseRanged_X12_in : GoodIn wsX12_parseRanged wsX12_in := goodIn_r _ [14] rfl (by decide +kernel)
set_option maxRecDepth 20000 in
theorem gX12_parseRanged_X12_in : GoodIn wsX12_parseRanged (va_wsS RX12 87 yX12_in wsX12_in) := goodIn_app (goodIn_of _ (by decide +kernel)) ggX12_parseRanged_X12_in
set_option maxRecDepth 20000 in
theorem ggX12_parseRanged_X12_token : GoodIn wsX12_parseRanged wsX12_token := goodIn_r _ [18, 19, 20, 21, 10, 1, 2, 22, 23, 7, 24, 25, 26, 27, 28, 29, 30, 31, 32, 33, 34, 35, 36, 37, 38, 39, 40, 41, 42, 43, 44, 45, 46] rfl (by decide +kernel)
set_option maxRecDepth 20000 in
theorem gX12_parseRanged_X12_token : GoodIn wsX12_parseRanged (wsV RX12 180 RX12 yX12_token wsX12_token) := goodIn_app (goodIn_of _ (by decide +kernel)) ggX12_parseRanged_X12_token
theorem dX12_parseRanged_0 : decode cX12_parseRanged 0 = .ok (.aload_n 0, 1) := by decide +kernel
theorem dX12_parseRanged_1 : decode cX12_parseRanged 1 = .ok (.getfield 57, 3) := by decide +kernel
theorem dX12_parseRanged_4 : decode cX12_parseRanged 4 = .ok (.iconst 2, 1) := by decide +kernel
theorem dX12_parseRanged_5 : decode cX12_parseRanged 5 = .ok (.if_icmp .eq 9, 3) := by decide +kernel
theorem dX12_parseRanged_8 : decode cX12_parseRanged 8 = .ok (.aload_n 0, 1) := by decide +kernel
theorem dX12_parseRanged_9 : decode cX12_parseRanged 9 = .ok (.iconst 1, 1) := by decide +kernel
theorem dX12_parseRanged_10 : decode cX12_parseRanged 10 = .ok (.invokevirtual 187, 3) := by decide +kernel
theorem dX12_parseRanged_13 : decode cX12_parseRanged 13 = .ok (.ireturn, 1) := by decide +kernel
theorem dX12_parseRanged_14 : decode cX12_parseRanged 14 = .ok (.aload_n 0, 1) := by decide +kernel
theorem dX12_parseRanged_15 : decode cX12_parseRanged 15 = .ok (.getfield 63, 3) := by decide +kernel
theorem dX12_parseRanged_18 : decode cX12_parseRanged 18 = .ok (.iload_n 2, 1) := by decide +kernel
theorem dX12_parseRanged_19 : decode cX12_parseRanged 19 = .ok (.iload_n 3, 1) := by decide +kernel
theorem dX12_parseRanged_20 : decode cX12_parseRanged 20 = .ok (.invokestatic 87, 3) := by decide +kernel
theorem dX12_parseRanged_23 : decode cX12_parseRanged 23 = .ok (.ifCond .ne 9, 3) := by decide +kernel
theorem dX12_parseRanged_26 : decode cX12_parseRanged 26 = .ok (.aload_n 0, 1) := by decide +kernel
theorem dX12_parseRanged_27 : decode cX12_parseRanged 27 = .ok (.iconst 2, 1) := by decide +kernel
theorem dX12_parseRanged_28 : decode cX12_parseRanged 28 = .ok (.invokevirtual 187, 3) := by decide +kernel
theorem dX12_parseRanged_31 : decode cX12_parseRanged 31 = .ok (.ireturn, 1) := by decide +kernel
theorem dX12_parseRanged_32 : decode cX12_parseRanged 32 = .ok (.aload_n 0, 1) := by decide +kernel
theorem dX12_parseRanged_33 : decode cX12_parseRanged 33 = .ok (.getfield 13, 3) := by decide +kernel
theorem dX12_parseRanged_36 : decode cX12_parseRanged 36 = .ok (.iload_n 1, 1) := by decide +kernel
theorem dX12_parseRanged_37 : decode cX12_parseRanged 37 = .ok (.aload_n 0, 1) := by decide +kernel
theorem dX12_parseRanged_38 : decode cX12_parseRanged 38 = .ok (.getfield 63, 3) := by decide +kernel
theorem dX12_parseRanged_41 : decode cX12_parseRanged 41 = .ok (.iastore, 1) := by decide +kernel
theorem dX12_parseRanged_42 : decode cX12_parseRanged 42 = .ok (.aload_n 0, 1) := by decide +kernel
theorem dX12_parseRanged_43 : decode cX12_parseRanged 43 = .ok (.invokevirtual 180, 3) := by decide +kernel
theorem dX12_parseRanged_46 : decode cX12_parseRanged 46 = .ok (.iconst 1, 1) := by decide +kernel
theorem dX12_parseRanged_47 : decode cX12_parseRanged 47 = .ok (.ireturn, 1) := by decide +kernel
set_option maxRecDepth 20000 in
theorem ggX12_putName_X12_token : GoodIn wsX12_putName wsX12_token := goodIn_r _ [9, 2, 10, 4, 3, 11, 12, 13, 14, 8, 15, 16, 17, 18, 19, 20, 21, 22, 23, 24, 25, 26, 27, 28, 29, 30, 31, 32, 33, 34, 35, 36, 37] rfl (by decide +kernel)
set_option maxRecDepth 20000 in
theorem gX12_putName_X12_token : GoodIn wsX12_putName (wsV RX12 180 RX12 yX12_token wsX12_token) := goodIn_app (goodIn_of _ (by decide +kernel)) ggX12_putName_X12_token
theorem dX12_putName_0 : decode cX12_putName 0 = .ok (.aload_n 0, 1) := by decide +kernel
theorem dX12_putName_1 : decode cX12_putName 1 = .ok (.getfield 13, 3) := by decide +kernel
theorem dX12_putName_4 : decode cX12_putName 4 = .ok (.iload_n 1, 1) := by decide +kernel
theorem dX12_putName_5 : decode cX12_putName 5 = .ok (.aload_n 0, 1) := by decide +kernel
theorem dX12_putName_6 : decode cX12_putName 6 = .ok (.getfield 54, 3) := by decide +kernel
theorem dX12_putName_9 : decode cX12_putName 9 = .ok (.aload_n 0, 1) := by decide +kernel
theorem dX12_putName_10 : decode cX12_putName 10 = .ok (.getfield 60, 3) := by decide +kernel
theorem dX12_putName_13 : decode cX12_putName 13 = .ok (.isub, 1) := by decide +kernel
theorem dX12_putName_14 : decode cX12_putName 14 = .ok (.iastore, 1) := by decide +kernel
theorem dX12_putName_15 : decode cX12_putName 15 = .ok (.aload_n 0, 1) := by decide +kernel
theorem dX12_putName_16 : decode cX12_putName 16 = .ok (.getfield 60, 3) := by decide +kernel
theorem dX12_putName_19 : decode cX12_putName 19 = .ok (.istore_n 2, 1) := by decide +kernel
theorem dX12_putName_20 : decode cX12_putName 20 = .ok (.iload_n 2, 1) := by decide +kernel
theorem dX12_putName_21 : decode cX12_putName 21 = .ok (.aload_n 0, 1) := by decide +kernel
theorem dX12_putName_22 : decode cX12_putName 22 = .ok (.getfield 54, 3) := by decide +kernel
theorem dX12_putName_25 : decode cX12_putName 25 = .ok (.if_icmp .ge 30, 3) := by decide +kernel
theorem dX12_putName_28 : decode cX12_putName 28 = .ok (.aload_n 0, 1) := by decide +kernel
theorem dX12_putName_29 : decode cX12_putName 29 = .ok (.getfield 13, 3) := by decide +kernel
theorem dX12_putName_32 : decode cX12_putName 32 = .ok (.iload_n 1, 1) := by decide +kernel
theorem dX12_putName_33 : decode cX12_putName 33 = .ok (.iconst 1, 1) := by decide +kernel
theorem dX12_putName_34 : decode cX12_putName 34 = .ok (.iadd, 1) := by decide +kernel
theorem dX12_putName_35 : decode cX12_putName 35 = .ok (.iload_n 2, 1) := by decide +kernel
theorem dX12_putName_36 : decode cX12_putName 36 = .ok (.iadd, 1) := by decide +kernel
theorem dX12_putName_37 : decode cX12_putName 37 = .ok (.aload_n 0, 1) := by decide +kernel
theorem dX12_putName_38 : decode cX12_putName 38 = .ok (.getfield 60, 3) := by decide +kernel
theorem dX12_putName_41 : decode cX12_putName 41 = .ok (.isub, 1) := by decide +kernel
theorem dX12_putName_42 : decode cX12_putName 42 = .ok (.aload_n 0, 1) := by decide +kernel
theorem dX12_putName_43 : decode cX12_putName 43 = .ok (.getfield 24, 3) := by decide +kernel
theorem dX12_putName_46 : decode cX12_putName 46 = .ok (.iload_n 2, 1) := by decide +kernel
theorem dX12_putName_47 : decode cX12_putName 47 = .ok (.iaload, 1) := by decide +kernel
theorem dX12_putName_48 : decode cX12_putName 48 = .ok (.iastore, 1) := by decide +kernel
theorem dX12_putName_49 : decode cX12_putName 49 = .ok (.iinc 2 1, 3) := by decide +kernel
theorem dX12_putName_52 : decode cX12_putName 52 = .ok (.goto (-32), 3) := by decide +kernel
theorem dX12_putName_55 : decode cX12_putName 55 = .ok (.aload_n 0, 1) := by decide +kernel
theorem dX12_putName_56 : decode cX12_putName 56 = .ok (.invokevirtual 180, 3) := by decide +kernel
theorem dX12_putName_59 : decode cX12_putName 59 = .ok (.return_, 1) := by decide +kernel
set_option maxRecDepth 20000 in
theorem ggX12_parsePan_X12_wrong : GoodIn wsX12_parsePan wsX12_wrong := goodIn_r _ [8, 9, 2, 10, 52, 53, 54, 55, 56, 57, 58, 59, 60, 61, 62, 63, 64, 65, 66, 67, 68, 69, 70] rfl (by decide +kernel)
set_option maxRecDepth 20000 in
theorem gX12_parsePan_X12_wrong : GoodIn wsX12_parsePan (wsV RX12 187 RX12 yX12_wrong wsX12_wrong) := goodIn_app (goodIn_of _ (by decide +kernel)) ggX12_parsePan_X12_wrong
set_option maxRecDepth 20000 in
theorem ggX12_parsePan_X12_token : GoodIn wsX12_parsePan wsX12_token := goodIn_r _ [14, 3, 15, 16, 2, 17, 18, 19, 20, 7, 21, 22, 23, 24, 52, 53, 54, 55, 56, 57, 58, 59, 60, 61, 62, 63, 64, 65, 66, 67, 68, 69, 70] rfl (by decide +kernel)
set_option maxRecDepth 20000 in
theorem gX12_parsePan_X12_token : GoodIn wsX12_parsePan (wsV RX12 180 RX12 yX12_token wsX12_token) := goodIn_app (goodIn_of _ (by decide +kernel)) ggX12_parsePan_X12_token
set_option maxRecDepth 20000 in
theorem ggX12_parsePan_X12_isShortWord : GoodIn wsX12_parsePan wsX12_isShortWord := goodIn_r _ [28, 17, 3, 2, 4, 5, 6, 7, 8, 9, 10, 52, 53, 54, 55, 56, 57, 58, 59, 60, 61, 62, 63, 64, 65, 66, 67, 68, 69, 70] rfl (by decide +kernel)
set_option maxRecDepth 20000 in
theorem gX12_parsePan_X12_isShortWord : GoodIn wsX12_parsePan (wsV RX12 193 RX12 yX12_isShortWord wsX12_isShortWord) := goodIn_app (goodIn_of _ (by decide +kernel)) ggX12_parsePan_X12_isShortWord
set_option maxRecDepth 20000 in
theorem ggX12_parsePan_X12_panNamed : GoodIn wsX12_parsePan wsX12_panNamed := goodIn_r _ [32, 1, 33, 34, 35, 7, 36, 16, 52, 53, 54, 55, 56, 57, 58, 59, 60, 61, 62, 63, 64, 65, 66, 67, 68, 69, 70] rfl (by decide +kernel)
set_option maxRecDepth 20000 in
theorem gX12_parsePan_X12_panNamed : GoodIn wsX12_parsePan (wsV RX12 196 RX12 yX12_panNamed wsX12_panNamed) := goodIn_app (goodIn_of _ (by decide +kernel)) ggX12_parsePan_X12_panNamed
set_option maxRecDepth 20000 in
theorem ggX12_parsePan_X12_putName : GoodIn wsX12_parsePan wsX12_putName := goodIn_r _ [40, 1, 3, 2, 16, 11, 12, 13, 7, 14, 15, 17, 18, 19, 20, 21, 22, 23, 24, 52, 53, 54, 55, 56, 57, 58, 59, 60, 61, 62, 63, 64, 65, 66, 67, 68, 69, 70] rfl (by decide +kernel)
set_option maxRecDepth 20000 in
theorem gX12_parsePan_X12_putName : GoodIn wsX12_parsePan (wsV RX12 199 RX12 yX12_putName wsX12_putName) := goodIn_app (goodIn_of _ (by decide +kernel)) ggX12_parsePan_X12_putName
set_option maxRecDepth 20000 in
theorem ggX12_parsePan_X12_parseRanged : GoodIn wsX12_parsePan wsX12_parseRanged := goodIn_r _ [44, 17, 18, 1, 4, 5, 6, 7, 8, 9, 2, 10, 45, 46, 47, 11, 12, 13, 14, 3, 15, 16, 19, 20, 21, 22, 23, 24, 52, 53, 54, 55, 56, 57, 58, 59, 60, 61, 62, 63, 64, 65, 66, 67, 68, 69, 70] rfl (by decide +kernel)
set_option maxRecDepth 20000 in
theorem gX12_parsePan_X12_parseRanged : GoodIn wsX12_parsePan (wsV RX12 202 RX12 yX12_parseRanged wsX12_parseRanged) := goodIn_app (goodIn_of _ (by decide +kernel)) ggX12_parsePan_X12_parseRanged
set_option maxRecDepth 20000 in
theorem ggX12_parsePan_X12_semicolon : GoodIn wsX12_parsePan wsX12_semicolon := goodIn_r _ [51, 17, 4, 5, 6, 7, 8, 9, 2, 10, 11, 12, 13, 14, 3, 15, 16, 18, 19, 20, 21, 22, 23, 24, 52, 53, 54, 55, 56, 57, 58, 59, 60, 61, 62, 63, 64, 65, 66, 67, 68, 69, 70] rfl (by decide +kernel)
set_option maxRecDepth 20000 in
theorem gX12_parsePan_X12_semicolon : GoodIn wsX12_parsePan (wsV RX12 205 RX12 yX12_semicolon wsX12_semicolon) := goodIn_app (goodIn_of _ (by decide +kernel)) ggX12_parsePan_X12_semicolon
theorem dX12_parsePan_0 : decode cX12_parsePan 0 = .ok (.aload_n 0, 1) := by decide +kernel
theorem dX12_parsePan_1 : decode cX12_parsePan 1 = .ok (.getfield 13, 3) := by decide +kernel
theorem dX12_parsePan_4 : decode cX12_parsePan 4 = .ok (.bipush 12, 2) := by decide +kernel
theorem dX12_parsePan_6 : decode cX12_parsePan 6 = .ok (.iaload, 1) := by decide +kernel
theorem dX12_parsePan_7 : decode cX12_parsePan 7 = .ok (.iconst 4, 1) := by decide +kernel
theorem dX12_parsePan_8 : decode cX12_parsePan 8 = .ok (.if_icmp .ne 9, 3) := by decide +kernel
theorem dX12_parsePan_11 : decode cX12_parsePan 11 = .ok (.aload_n 0, 1) := by decide +kernel
theorem dX12_parsePan_12 : decode cX12_parsePan 12 = .ok (.iconst 5, 1) := by decide +kernel
theorem dX12_parsePan_13 : decode cX12_parsePan 13 = .ok (.invokevirtual 187, 3) := by decide +kernel
theorem dX12_parsePan_16 : decode cX12_parsePan 16 = .ok (.ireturn, 1) := by decide +kernel
theorem dX12_parsePan_17 : decode cX12_parsePan 17 = .ok (.aload_n 0, 1) := by decide +kernel
theorem dX12_parsePan_18 : decode cX12_parsePan 18 = .ok (.invokevirtual 180, 3) := by decide +kernel
theorem dX12_parsePan_21 : decode cX12_parsePan 21 = .ok (.aload_n 0, 1) := by decide +kernel
theorem dX12_parsePan_22 : decode cX12_parsePan 22 = .ok (.invokevirtual 193, 3) := by decide +kernel
theorem dX12_parsePan_25 : decode cX12_parsePan 25 = .ok (.ifCond .ne 5, 3) := by decide +kernel
theorem dX12_parsePan_28 : decode cX12_parsePan 28 = .ok (.iconst 0, 1) := by decide +kernel
theorem dX12_parsePan_29 : decode cX12_parsePan 29 = .ok (.ireturn, 1) := by decide +kernel
theorem dX12_parsePan_30 : decode cX12_parsePan 30 = .ok (.aload_n 0, 1) := by decide +kernel
theorem dX12_parsePan_31 : decode cX12_parsePan 31 = .ok (.aload_n 0, 1) := by decide +kernel
theorem dX12_parsePan_32 : decode cX12_parsePan 32 = .ok (.getfield 60, 3) := by decide +kernel
theorem dX12_parsePan_35 : decode cX12_parsePan 35 = .ok (.aload_n 0, 1) := by decide +kernel
theorem dX12_parsePan_36 : decode cX12_parsePan 36 = .ok (.getfield 54, 3) := by decide +kernel
theorem dX12_parsePan_39 : decode cX12_parsePan 39 = .ok (.aload_n 0, 1) := by decide +kernel
theorem dX12_parsePan_40 : decode cX12_parsePan 40 = .ok (.getfield 60, 3) := by decide +kernel
theorem dX12_parsePan_43 : decode cX12_parsePan 43 = .ok (.isub, 1) := by decide +kernel
theorem dX12_parsePan_44 : decode cX12_parsePan 44 = .ok (.invokevirtual 196, 3) := by decide +kernel
theorem dX12_parsePan_47 : decode cX12_parsePan 47 = .ok (.iconst (-1), 1) := by decide +kernel
theorem dX12_parsePan_48 : decode cX12_parsePan 48 = .ok (.if_icmp .eq 9, 3) := by decide +kernel
theorem dX12_parsePan_51 : decode cX12_parsePan 51 = .ok (.aload_n 0, 1) := by decide +kernel
theorem dX12_parsePan_52 : decode cX12_parsePan 52 = .ok (.iconst 3, 1) := by decide +kernel
theorem dX12_parsePan_53 : decode cX12_parsePan 53 = .ok (.invokevirtual 187, 3) := by decide +kernel
theorem dX12_parsePan_56 : decode cX12_parsePan 56 = .ok (.ireturn, 1) := by decide +kernel
theorem dX12_parsePan_57 : decode cX12_parsePan 57 = .ok (.bipush 14, 2) := by decide +kernel
theorem dX12_parsePan_59 : decode cX12_parsePan 59 = .ok (.aload_n 0, 1) := by decide +kernel
theorem dX12_parsePan_60 : decode cX12_parsePan 60 = .ok (.getfield 13, 3) := by decide +kernel
theorem dX12_parsePan_63 : decode cX12_parsePan 63 = .ok (.bipush 12, 2) := by decide +kernel
theorem dX12_parsePan_65 : decode cX12_parsePan 65 = .ok (.iaload, 1) := by decide +kernel
theorem dX12_parsePan_66 : decode cX12_parsePan 66 = .ok (.bipush 8, 2) := by decide +kernel
theorem dX12_parsePan_68 : decode cX12_parsePan 68 = .ok (.imul, 1) := by decide +kernel
theorem dX12_parsePan_69 : decode cX12_parsePan 69 = .ok (.iadd, 1) := by decide +kernel
theorem dX12_parsePan_70 : decode cX12_parsePan 70 = .ok (.istore_n 1, 1) := by decide +kernel
theorem dX12_parsePan_71 : decode cX12_parsePan 71 = .ok (.aload_n 0, 1) := by decide +kernel
theorem dX12_parsePan_72 : decode cX12_parsePan 72 = .ok (.iload_n 1, 1) := by decide +kernel
theorem dX12_parsePan_73 : decode cX12_parsePan 73 = .ok (.invokevirtual 199, 3) := by decide +kernel
theorem dX12_parsePan_76 : decode cX12_parsePan 76 = .ok (.aload_n 0, 1) := by decide +kernel
theorem dX12_parsePan_77 : decode cX12_parsePan 77 = .ok (.iload_n 1, 1) := by decide +kernel
theorem dX12_parsePan_78 : decode cX12_parsePan 78 = .ok (.bipush 7, 2) := by decide +kernel
theorem dX12_parsePan_80 : decode cX12_parsePan 80 = .ok (.iadd, 1) := by decide +kernel
theorem dX12_parsePan_81 : decode cX12_parsePan 81 = .ok (.iconst 1, 1) := by decide +kernel
theorem dX12_parsePan_82 : decode cX12_parsePan 82 = .ok (.iconst 5, 1) := by decide +kernel
theorem dX12_parsePan_83 : decode cX12_parsePan 83 = .ok (.invokevirtual 202, 3) := by decide +kernel
theorem dX12_parsePan_86 : decode cX12_parsePan 86 = .ok (.ifCond .eq 10, 3) := by decide +kernel
theorem dX12_parsePan_89 : decode cX12_parsePan 89 = .ok (.aload_n 0, 1) := by decide +kernel
theorem dX12_parsePan_90 : decode cX12_parsePan 90 = .ok (.invokevirtual 205, 3) := by decide +kernel
theorem dX12_parsePan_93 : decode cX12_parsePan 93 = .ok (.ifCond .ne 5, 3) := by decide +kernel
theorem dX12_parsePan_96 : decode cX12_parsePan 96 = .ok (.iconst 0, 1) := by decide +kernel
theorem dX12_parsePan_97 : decode cX12_parsePan 97 = .ok (.ireturn, 1) := by decide +kernel
theorem dX12_parsePan_98 : decode cX12_parsePan 98 = .ok (.aload_n 0, 1) := by decide +kernel
theorem dX12_parsePan_99 : decode cX12_parsePan 99 = .ok (.getfield 13, 3) := by decide +kernel
theorem dX12_parsePan_102 : decode cX12_parsePan 102 = .ok (.bipush 12, 2) := by decide +kernel
theorem dX12_parsePan_104 : decode cX12_parsePan 104 = .ok (.dup2, 1) := by decide +kernel
theorem dX12_parsePan_105 : decode cX12_parsePan 105 = .ok (.iaload, 1) := by decide +kernel
theorem dX12_parsePan_106 : decode cX12_parsePan 106 = .ok (.iconst 1, 1) := by decide +kernel
theorem dX12_parsePan_107 : decode cX12_parsePan 107 = .ok (.iadd, 1) := by decide +kernel
theorem dX12_parsePan_108 : decode cX12_parsePan 108 = .ok (.iastore, 1) := by decide +kernel
theorem dX12_parsePan_109 : decode cX12_parsePan 109 = .ok (.iconst 1, 1) := by decide +kernel
theorem dX12_parsePan_110 : decode cX12_parsePan 110 = .ok (.ireturn, 1) := by decide +kernel
set_option maxRecDepth 20000 in
theorem ggX12_parsePredecessor_X12_isShortWord : GoodIn wsX12_parsePredecessor wsX12_isShortWord := goodIn_r _ [8, 9, 2, 1, 10, 11, 12, 7, 13, 14, 15, 37, 38, 39, 40, 41, 42, 43, 44, 45, 46, 47, 48, 49, 50, 51, 52, 53, 54, 55] rfl (by decide +kernel)
set_option maxRecDepth 20000 in
theorem gX12_parsePredecessor_X12_isShortWord : GoodIn wsX12_parsePredecessor (wsV RX12 193 RX12 yX12_isShortWord wsX12_isShortWord) := goodIn_app (goodIn_of _ (by decide +kernel)) ggX12_parsePredecessor_X12_isShortWord
set_option maxRecDepth 20000 in
theorem ggX12_parsePredecessor_X12_stepNamed : GoodIn wsX12_parsePredecessor wsX12_stepNamed := goodIn_r _ [19, 3, 20, 21, 22, 7, 23, 24, 37, 38, 39, 40, 41, 42, 43, 44, 45, 46, 47, 48, 49, 50, 51, 52, 53, 54, 55] rfl (by decide +kernel)
set_option maxRecDepth 20000 in
theorem gX12_parsePredecessor_X12_stepNamed : GoodIn wsX12_parsePredecessor (wsV RX12 208 RX12 yX12_stepNamed wsX12_stepNamed) := goodIn_app (goodIn_of _ (by decide +kernel)) ggX12_parsePredecessor_X12_stepNamed
set_option maxRecDepth 20000 in
theorem ggX12_parsePredecessor_X12_wrong : GoodIn wsX12_parsePredecessor wsX12_wrong := goodIn_r _ [13, 14, 1, 15, 37, 38, 39, 40, 41, 42, 43, 44, 45, 46, 47, 48, 49, 50, 51, 52, 53, 54, 55] rfl (by decide +kernel)
set_option maxRecDepth 20000 in
theorem gX12_parsePredecessor_X12_wrong : GoodIn wsX12_parsePredecessor (wsV RX12 187 RX12 yX12_wrong wsX12_wrong) := goodIn_app (goodIn_of _ (by decide +kernel)) ggX12_parsePredecessor_X12_wrong
set_option maxRecDepth 20000 in
theorem ggX12_parsePredecessor_X12_token : GoodIn wsX12_parsePredecessor wsX12_token := goodIn_r _ [28, 2, 29, 24, 1, 9, 30, 31, 32, 7, 33, 34, 35, 36, 37, 38, 39, 40, 41, 42, 43, 44, 45, 46, 47, 48, 49, 50, 51, 52, 53, 54, 55] rfl (by decide +kernel)
set_option maxRecDepth 20000 in
theorem gX12_parsePredecessor_X12_token : GoodIn wsX12_parsePredecessor (wsV RX12 180 RX12 yX12_token wsX12_token) := goodIn_app (goodIn_of _ (by decide +kernel)) ggX12_parsePredecessor_X12_token
theorem dX12_parsePredecessor_0 : decode cX12_parsePredecessor 0 = .ok (.aload_n 0, 1) := by decide +kernel
theorem dX12_parsePredecessor_1 : decode cX12_parsePredecessor 1 = .ok (.invokevirtual 193, 3) := by decide +kernel
theorem dX12_parsePredecessor_4 : decode cX12_parsePredecessor 4 = .ok (.ifCond .ne 5, 3) := by decide +kernel
theorem dX12_parsePredecessor_7 : decode cX12_parsePredecessor 7 = .ok (.iconst 0, 1) := by decide +kernel
theorem dX12_parsePredecessor_8 : decode cX12_parsePredecessor 8 = .ok (.ireturn, 1) := by decide +kernel
theorem dX12_parsePredecessor_9 : decode cX12_parsePredecessor 9 = .ok (.aload_n 0, 1) := by decide +kernel
theorem dX12_parsePredecessor_10 : decode cX12_parsePredecessor 10 = .ok (.aload_n 0, 1) := by decide +kernel
theorem dX12_parsePredecessor_11 : decode cX12_parsePredecessor 11 = .ok (.getfield 60, 3) := by decide +kernel
theorem dX12_parsePredecessor_14 : decode cX12_parsePredecessor 14 = .ok (.aload_n 0, 1) := by decide +kernel
theorem dX12_parsePredecessor_15 : decode cX12_parsePredecessor 15 = .ok (.getfield 54, 3) := by decide +kernel
theorem dX12_parsePredecessor_18 : decode cX12_parsePredecessor 18 = .ok (.aload_n 0, 1) := by decide +kernel
theorem dX12_parsePredecessor_19 : decode cX12_parsePredecessor 19 = .ok (.getfield 60, 3) := by decide +kernel
theorem dX12_parsePredecessor_22 : decode cX12_parsePredecessor 22 = .ok (.isub, 1) := by decide +kernel
theorem dX12_parsePredecessor_23 : decode cX12_parsePredecessor 23 = .ok (.invokevirtual 208, 3) := by decide +kernel
theorem dX12_parsePredecessor_26 : decode cX12_parsePredecessor 26 = .ok (.istore_n 2, 1) := by decide +kernel
theorem dX12_parsePredecessor_27 : decode cX12_parsePredecessor 27 = .ok (.iload_n 2, 1) := by decide +kernel
theorem dX12_parsePredecessor_28 : decode cX12_parsePredecessor 28 = .ok (.iconst (-1), 1) := by decide +kernel
theorem dX12_parsePredecessor_29 : decode cX12_parsePredecessor 29 = .ok (.if_icmp .ne 9, 3) := by decide +kernel
theorem dX12_parsePredecessor_32 : decode cX12_parsePredecessor 32 = .ok (.aload_n 0, 1) := by decide +kernel
theorem dX12_parsePredecessor_33 : decode cX12_parsePredecessor 33 = .ok (.iconst 3, 1) := by decide +kernel
theorem dX12_parsePredecessor_34 : decode cX12_parsePredecessor 34 = .ok (.invokevirtual 187, 3) := by decide +kernel
theorem dX12_parsePredecessor_37 : decode cX12_parsePredecessor 37 = .ok (.ireturn, 1) := by decide +kernel
theorem dX12_parsePredecessor_38 : decode cX12_parsePredecessor 38 = .ok (.iconst 0, 1) := by decide +kernel
theorem dX12_parsePredecessor_39 : decode cX12_parsePredecessor 39 = .ok (.istore_n 3, 1) := by decide +kernel
theorem dX12_parsePredecessor_40 : decode cX12_parsePredecessor 40 = .ok (.iload_n 3, 1) := by decide +kernel
theorem dX12_parsePredecessor_41 : decode cX12_parsePredecessor 41 = .ok (.aload_n 0, 1) := by decide +kernel
theorem dX12_parsePredecessor_42 : decode cX12_parsePredecessor 42 = .ok (.getfield 13, 3) := by decide +kernel
theorem dX12_parsePredecessor_45 : decode cX12_parsePredecessor 45 = .ok (.iload_n 1, 1) := by decide +kernel
theorem dX12_parsePredecessor_46 : decode cX12_parsePredecessor 46 = .ok (.bipush 12, 2) := by decide +kernel
theorem dX12_parsePredecessor_48 : decode cX12_parsePredecessor 48 = .ok (.iadd, 1) := by decide +kernel
theorem dX12_parsePredecessor_49 : decode cX12_parsePredecessor 49 = .ok (.iaload, 1) := by decide +kernel
theorem dX12_parsePredecessor_50 : decode cX12_parsePredecessor 50 = .ok (.if_icmp .ge 30, 3) := by decide +kernel
theorem dX12_parsePredecessor_53 : decode cX12_parsePredecessor 53 = .ok (.aload_n 0, 1) := by decide +kernel
theorem dX12_parsePredecessor_54 : decode cX12_parsePredecessor 54 = .ok (.getfield 13, 3) := by decide +kernel
theorem dX12_parsePredecessor_57 : decode cX12_parsePredecessor 57 = .ok (.iload_n 1, 1) := by decide +kernel
theorem dX12_parsePredecessor_58 : decode cX12_parsePredecessor 58 = .ok (.bipush 13, 2) := by decide +kernel
theorem dX12_parsePredecessor_60 : decode cX12_parsePredecessor 60 = .ok (.iadd, 1) := by decide +kernel
theorem dX12_parsePredecessor_61 : decode cX12_parsePredecessor 61 = .ok (.iload_n 3, 1) := by decide +kernel
theorem dX12_parsePredecessor_62 : decode cX12_parsePredecessor 62 = .ok (.iadd, 1) := by decide +kernel
theorem dX12_parsePredecessor_63 : decode cX12_parsePredecessor 63 = .ok (.iaload, 1) := by decide +kernel
theorem dX12_parsePredecessor_64 : decode cX12_parsePredecessor 64 = .ok (.iload_n 2, 1) := by decide +kernel
theorem dX12_parsePredecessor_65 : decode cX12_parsePredecessor 65 = .ok (.if_icmp .ne 9, 3) := by decide +kernel
theorem dX12_parsePredecessor_68 : decode cX12_parsePredecessor 68 = .ok (.aload_n 0, 1) := by decide +kernel
theorem dX12_parsePredecessor_69 : decode cX12_parsePredecessor 69 = .ok (.iconst 4, 1) := by decide +kernel
theorem dX12_parsePredecessor_70 : decode cX12_parsePredecessor 70 = .ok (.invokevirtual 187, 3) := by decide +kernel
theorem dX12_parsePredecessor_73 : decode cX12_parsePredecessor 73 = .ok (.ireturn, 1) := by decide +kernel
theorem dX12_parsePredecessor_74 : decode cX12_parsePredecessor 74 = .ok (.iinc 3 1, 3) := by decide +kernel
theorem dX12_parsePredecessor_77 : decode cX12_parsePredecessor 77 = .ok (.goto (-37), 3) := by decide +kernel
theorem dX12_parsePredecessor_80 : decode cX12_parsePredecessor 80 = .ok (.aload_n 0, 1) := by decide +kernel
theorem dX12_parsePredecessor_81 : decode cX12_parsePredecessor 81 = .ok (.getfield 13, 3) := by decide +kernel
theorem dX12_parsePredecessor_84 : decode cX12_parsePredecessor 84 = .ok (.iload_n 1, 1) := by decide +kernel
theorem dX12_parsePredecessor_85 : decode cX12_parsePredecessor 85 = .ok (.bipush 12, 2) := by decide +kernel
theorem dX12_parsePredecessor_87 : decode cX12_parsePredecessor 87 = .ok (.iadd, 1) := by decide +kernel
theorem dX12_parsePredecessor_88 : decode cX12_parsePredecessor 88 = .ok (.iaload, 1) := by decide +kernel
theorem dX12_parsePredecessor_89 : decode cX12_parsePredecessor 89 = .ok (.iconst 4, 1) := by decide +kernel
theorem dX12_parsePredecessor_90 : decode cX12_parsePredecessor 90 = .ok (.if_icmp .ne 9, 3) := by decide +kernel
theorem dX12_parsePredecessor_93 : decode cX12_parsePredecessor 93 = .ok (.aload_n 0, 1) := by decide +kernel
theorem dX12_parsePredecessor_94 : decode cX12_parsePredecessor 94 = .ok (.iconst 5, 1) := by decide +kernel
theorem dX12_parsePredecessor_95 : decode cX12_parsePredecessor 95 = .ok (.invokevirtual 187, 3) := by decide +kernel
theorem dX12_parsePredecessor_98 : decode cX12_parsePredecessor 98 = .ok (.ireturn, 1) := by decide +kernel
theorem dX12_parsePredecessor_99 : decode cX12_parsePredecessor 99 = .ok (.aload_n 0, 1) := by decide +kernel
theorem dX12_parsePredecessor_100 : decode cX12_parsePredecessor 100 = .ok (.getfield 13, 3) := by decide +kernel
theorem dX12_parsePredecessor_103 : decode cX12_parsePredecessor 103 = .ok (.iload_n 1, 1) := by decide +kernel
theorem dX12_parsePredecessor_104 : decode cX12_parsePredecessor 104 = .ok (.bipush 13, 2) := by decide +kernel
theorem dX12_parsePredecessor_106 : decode cX12_parsePredecessor 106 = .ok (.iadd, 1) := by decide +kernel
theorem dX12_parsePredecessor_107 : decode cX12_parsePredecessor 107 = .ok (.aload_n 0, 1) := by decide +kernel
theorem dX12_parsePredecessor_108 : decode cX12_parsePredecessor 108 = .ok (.getfield 13, 3) := by decide +kernel
theorem dX12_parsePredecessor_111 : decode cX12_parsePredecessor 111 = .ok (.iload_n 1, 1) := by decide +kernel
theorem dX12_parsePredecessor_112 : decode cX12_parsePredecessor 112 = .ok (.bipush 12, 2) := by decide +kernel
theorem dX12_parsePredecessor_114 : decode cX12_parsePredecessor 114 = .ok (.iadd, 1) := by decide +kernel
theorem dX12_parsePredecessor_115 : decode cX12_parsePredecessor 115 = .ok (.iaload, 1) := by decide +kernel
theorem dX12_parsePredecessor_116 : decode cX12_parsePredecessor 116 = .ok (.iadd, 1) := by decide +kernel
theorem dX12_parsePredecessor_117 : decode cX12_parsePredecessor 117 = .ok (.iload_n 2, 1) := by decide +kernel
theorem dX12_parsePredecessor_118 : decode cX12_parsePredecessor 118 = .ok (.iastore, 1) := by decide +kernel
theorem dX12_parsePredecessor_119 : decode cX12_parsePredecessor 119 = .ok (.aload_n 0, 1) := by decide +kernel
theorem dX12_parsePredecessor_120 : decode cX12_parsePredecessor 120 = .ok (.getfield 13, 3) := by decide +kernel
theorem dX12_parsePredecessor_123 : decode cX12_parsePredecessor 123 = .ok (.iload_n 1, 1) := by decide +kernel
theorem dX12_parsePredecessor_124 : decode cX12_parsePredecessor 124 = .ok (.bipush 12, 2) := by decide +kernel
theorem dX12_parsePredecessor_126 : decode cX12_parsePredecessor 126 = .ok (.iadd, 1) := by decide +kernel
theorem dX12_parsePredecessor_127 : decode cX12_parsePredecessor 127 = .ok (.dup2, 1) := by decide +kernel
theorem dX12_parsePredecessor_128 : decode cX12_parsePredecessor 128 = .ok (.iaload, 1) := by decide +kernel
theorem dX12_parsePredecessor_129 : decode cX12_parsePredecessor 129 = .ok (.iconst 1, 1) := by decide +kernel
theorem dX12_parsePredecessor_130 : decode cX12_parsePredecessor 130 = .ok (.iadd, 1) := by decide +kernel
theorem dX12_parsePredecessor_131 : decode cX12_parsePredecessor 131 = .ok (.iastore, 1) := by decide +kernel
theorem dX12_parsePredecessor_132 : decode cX12_parsePredecessor 132 = .ok (.aload_n 0, 1) := by decide +kernel
theorem dX12_parsePredecessor_133 : decode cX12_parsePredecessor 133 = .ok (.invokevirtual 180, 3) := by decide +kernel
theorem dX12_parsePredecessor_136 : decode cX12_parsePredecessor 136 = .ok (.iconst 1, 1) := by decide +kernel
theorem dX12_parsePredecessor_137 : decode cX12_parsePredecessor 137 = .ok (.ireturn, 1) := by decide +kernel
set_option maxRecDepth 20000 in
theorem ggX12_parsePanType_X12_takes : GoodIn wsX12_parsePanType wsX12_takes := goodIn_r _ [8, 9, 10, 11, 7, 12, 13, 3, 2, 14, 15, 16, 17, 18, 19, 20, 21, 22, 23, 24, 25, 26, 27, 28, 29, 30, 31, 32, 33, 34, 35, 36, 37, 38, 39, 40, 41, 42, 43, 44, 45, 46, 47, 48, 49, 50, 51, 52, 53, 54, 55, 56, 57, 58, 59, 60, 61, 62, 63, 64, 65, 66, 67, 68, 69, 70, 71, 72, 73, 74, 75, 94, 95, 96, 97, 98, 99, 100, 101, 102, 103, 104, 105, 106, 107, 108, 109, 110, 111, 112] rfl (by decide +kernel)
set_option maxRecDepth 20000 in
theorem gX12_parsePanType_X12_takes : GoodIn wsX12_parsePanType (wsV RX12 212 RX12 yX12_takes wsX12_takes) := goodIn_app (goodIn_of _ (by decide +kernel)) ggX12_parsePanType_X12_takes
set_option maxRecDepth 20000 in
theorem ggX12_parsePanType_X12_isShortWord : GoodIn wsX12_parsePanType wsX12_isShortWord := goodIn_r _ [79, 13, 3, 2, 80, 81, 82, 7, 83, 84, 85, 94, 95, 96, 97, 98, 99, 100, 101, 102, 103, 104, 105, 106, 107, 108, 109, 110, 111, 112] rfl (by decide +kernel)
set_option maxRecDepth 20000 in
theorem gX12_parsePanType_X12_isShortWord : GoodIn wsX12_parsePanType (wsV RX12 193 RX12 yX12_isShortWord wsX12_isShortWord) := goodIn_app (goodIn_of _ (by decide +kernel)) ggX12_parsePanType_X12_isShortWord
set_option maxRecDepth 20000 in
theorem ggX12_parsePanType_X12_panNamed : GoodIn wsX12_parsePanType wsX12_panNamed := goodIn_r _ [89, 1, 90, 91, 92, 7, 93, 14, 94, 95, 96, 97, 98, 99, 100, 101, 102, 103, 104, 105, 106, 107, 108, 109, 110, 111, 112] rfl (by decide +kernel)
set_option maxRecDepth 20000 in
theorem gX12_parsePanType_X12_panNamed : GoodIn wsX12_parsePanType (wsV RX12 196 RX12 yX12_panNamed wsX12_panNamed) := goodIn_app (goodIn_of _ (by decide +kernel)) ggX12_parsePanType_X12_panNamed
set_option maxRecDepth 20000 in
theorem ggX12_parsePanType_X12_wrong : GoodIn wsX12_parsePanType wsX12_wrong := goodIn_r _ [83, 84, 2, 85, 94, 95, 96, 97, 98, 99, 100, 101, 102, 103, 104, 105, 106, 107, 108, 109, 110, 111, 112] rfl (by decide +kernel)
set_option maxRecDepth 20000 in
theorem gX12_parsePanType_X12_wrong : GoodIn wsX12_parsePanType (wsV RX12 187 RX12 yX12_wrong wsX12_wrong) := goodIn_app (goodIn_of _ (by decide +kernel)) ggX12_parsePanType_X12_wrong
set_option maxRecDepth 20000 in
theorem ggX12_parsePanType_X12_token : GoodIn wsX12_parsePanType wsX12_token := goodIn_r _ [67, 3, 68, 14, 2, 13, 69, 70, 71, 7, 72, 73, 74, 75, 94, 95, 96, 97, 98, 99, 100, 101, 102, 103, 104, 105, 106, 107, 108, 109, 110, 111, 112] rfl (by decide +kernel)
set_option maxRecDepth 20000 in
theorem gX12_parsePanType_X12_token : GoodIn wsX12_parsePanType (wsV RX12 180 RX12 yX12_token wsX12_token) := goodIn_app (goodIn_of _ (by decide +kernel)) ggX12_parsePanType_X12_token
theorem dX12_parsePanType_0 : decode cX12_parsePanType 0 = .ok (.aload_n 0, 1) := by decide +kernel
theorem dX12_parsePanType_1 : decode cX12_parsePanType 1 = .ok (.getfield 13, 3) := by decide +kernel
theorem dX12_parsePanType_4 : decode cX12_parsePanType 4 = .ok (.iload_n 1, 1) := by decide +kernel
theorem dX12_parsePanType_5 : decode cX12_parsePanType 5 = .ok (.bipush 9, 2) := by decide +kernel
theorem dX12_parsePanType_7 : decode cX12_parsePanType 7 = .ok (.iadd, 1) := by decide +kernel
theorem dX12_parsePanType_8 : decode cX12_parsePanType 8 = .ok (.iconst (-1), 1) := by decide +kernel
theorem dX12_parsePanType_9 : decode cX12_parsePanType 9 = .ok (.iastore, 1) := by decide +kernel
theorem dX12_parsePanType_10 : decode cX12_parsePanType 10 = .ok (.aload_n 0, 1) := by decide +kernel
theorem dX12_parsePanType_11 : decode cX12_parsePanType 11 = .ok (.ldc 211, 2) := by decide +kernel
theorem dX12_parsePanType_13 : decode cX12_parsePanType 13 = .ok (.invokevirtual 212, 3) := by decide +kernel
theorem dX12_parsePanType_16 : decode cX12_parsePanType 16 = .ok (.ifCond .ne 5, 3) := by decide +kernel
theorem dX12_parsePanType_19 : decode cX12_parsePanType 19 = .ok (.iconst 1, 1) := by decide +kernel
theorem dX12_parsePanType_20 : decode cX12_parsePanType 20 = .ok (.ireturn, 1) := by decide +kernel
theorem dX12_parsePanType_21 : decode cX12_parsePanType 21 = .ok (.aload_n 0, 1) := by decide +kernel
theorem dX12_parsePanType_22 : decode cX12_parsePanType 22 = .ok (.invokevirtual 193, 3) := by decide +kernel
theorem dX12_parsePanType_25 : decode cX12_parsePanType 25 = .ok (.ifCond .ne 5, 3) := by decide +kernel
theorem dX12_parsePanType_28 : decode cX12_parsePanType 28 = .ok (.iconst 0, 1) := by decide +kernel
theorem dX12_parsePanType_29 : decode cX12_parsePanType 29 = .ok (.ireturn, 1) := by decide +kernel
theorem dX12_parsePanType_30 : decode cX12_parsePanType 30 = .ok (.aload_n 0, 1) := by decide +kernel
theorem dX12_parsePanType_31 : decode cX12_parsePanType 31 = .ok (.getfield 13, 3) := by decide +kernel
theorem dX12_parsePanType_34 : decode cX12_parsePanType 34 = .ok (.iload_n 1, 1) := by decide +kernel
theorem dX12_parsePanType_35 : decode cX12_parsePanType 35 = .ok (.bipush 9, 2) := by decide +kernel
theorem dX12_parsePanType_37 : decode cX12_parsePanType 37 = .ok (.iadd, 1) := by decide +kernel
theorem dX12_parsePanType_38 : decode cX12_parsePanType 38 = .ok (.aload_n 0, 1) := by decide +kernel
theorem dX12_parsePanType_39 : decode cX12_parsePanType 39 = .ok (.aload_n 0, 1) := by decide +kernel
theorem dX12_parsePanType_40 : decode cX12_parsePanType 40 = .ok (.getfield 60, 3) := by decide +kernel
theorem dX12_parsePanType_43 : decode cX12_parsePanType 43 = .ok (.aload_n 0, 1) := by decide +kernel
theorem dX12_parsePanType_44 : decode cX12_parsePanType 44 = .ok (.getfield 54, 3) := by decide +kernel
theorem dX12_parsePanType_47 : decode cX12_parsePanType 47 = .ok (.aload_n 0, 1) := by decide +kernel
theorem dX12_parsePanType_48 : decode cX12_parsePanType 48 = .ok (.getfield 60, 3) := by decide +kernel
theorem dX12_parsePanType_51 : decode cX12_parsePanType 51 = .ok (.isub, 1) := by decide +kernel
theorem dX12_parsePanType_52 : decode cX12_parsePanType 52 = .ok (.invokevirtual 196, 3) := by decide +kernel
theorem dX12_parsePanType_55 : decode cX12_parsePanType 55 = .ok (.iastore, 1) := by decide +kernel
theorem dX12_parsePanType_56 : decode cX12_parsePanType 56 = .ok (.aload_n 0, 1) := by decide +kernel
theorem dX12_parsePanType_57 : decode cX12_parsePanType 57 = .ok (.getfield 13, 3) := by decide +kernel
theorem dX12_parsePanType_60 : decode cX12_parsePanType 60 = .ok (.iload_n 1, 1) := by decide +kernel
theorem dX12_parsePanType_61 : decode cX12_parsePanType 61 = .ok (.bipush 9, 2) := by decide +kernel
theorem dX12_parsePanType_63 : decode cX12_parsePanType 63 = .ok (.iadd, 1) := by decide +kernel
theorem dX12_parsePanType_64 : decode cX12_parsePanType 64 = .ok (.iaload, 1) := by decide +kernel
theorem dX12_parsePanType_65 : decode cX12_parsePanType 65 = .ok (.iconst (-1), 1) := by decide +kernel
theorem dX12_parsePanType_66 : decode cX12_parsePanType 66 = .ok (.if_icmp .ne 9, 3) := by decide +kernel
theorem dX12_parsePanType_69 : decode cX12_parsePanType 69 = .ok (.aload_n 0, 1) := by decide +kernel
theorem dX12_parsePanType_70 : decode cX12_parsePanType 70 = .ok (.iconst 3, 1) := by decide +kernel
theorem dX12_parsePanType_71 : decode cX12_parsePanType 71 = .ok (.invokevirtual 187, 3) := by decide +kernel
theorem dX12_parsePanType_74 : decode cX12_parsePanType 74 = .ok (.ireturn, 1) := by decide +kernel
theorem dX12_parsePanType_75 : decode cX12_parsePanType 75 = .ok (.aload_n 0, 1) := by decide +kernel
theorem dX12_parsePanType_76 : decode cX12_parsePanType 76 = .ok (.invokevirtual 180, 3) := by decide +kernel
theorem dX12_parsePanType_79 : decode cX12_parsePanType 79 = .ok (.iconst 1, 1) := by decide +kernel
theorem dX12_parsePanType_80 : decode cX12_parsePanType 80 = .ok (.ireturn, 1) := by decide +kernel
set_option maxRecDepth 20000 in
theorem ggX12_parseStep_X12_wrong : GoodIn wsX12_parseStep wsX12_wrong := goodIn_r _ [9, 10, 2, 11, 121, 122, 123, 124, 125, 126, 127, 128, 129, 130, 131, 132, 133, 134, 135, 136, 137, 138, 139] rfl (by decide +kernel)
set_option maxRecDepth 20000 in
theorem gX12_parseStep_X12_wrong : GoodIn wsX12_parseStep (wsV RX12 187 RX12 yX12_wrong wsX12_wrong) := goodIn_app (goodIn_of _ (by decide +kernel)) ggX12_parseStep_X12_wrong
set_option maxRecDepth 20000 in
theorem ggX12_parseStep_X12_token : GoodIn wsX12_parseStep wsX12_token := goodIn_r _ [15, 3, 16, 17, 2, 4, 18, 19, 20, 8, 21, 22, 23, 24, 121, 122, 123, 124, 125, 126, 127, 128, 129, 130, 131, 132, 133, 134, 135, 136, 137, 138, 139] rfl (by decide +kernel)
set_option maxRecDepth 20000 in
theorem gX12_parseStep_X12_token : GoodIn wsX12_parseStep (wsV RX12 180 RX12 yX12_token wsX12_token) := goodIn_app (goodIn_of _ (by decide +kernel)) ggX12_parseStep_X12_token
set_option maxRecDepth 20000 in
theorem ggX12_parseStep_X12_isShortWord : GoodIn wsX12_parseStep wsX12_isShortWord := goodIn_r _ [28, 4, 3, 2, 5, 6, 7, 8, 9, 10, 11, 121, 122, 123, 124, 125, 126, 127, 128, 129, 130, 131, 132, 133, 134, 135, 136, 137, 138, 139] rfl (by decide +kernel)
set_option maxRecDepth 20000 in
theorem gX12_parseStep_X12_isShortWord : GoodIn wsX12_parseStep (wsV RX12 193 RX12 yX12_isShortWord wsX12_isShortWord) := goodIn_app (goodIn_of _ (by decide +kernel)) ggX12_parseStep_X12_isShortWord
set_option maxRecDepth 20000 in
theorem ggX12_parseStep_X12_stepNamed : GoodIn wsX12_parseStep wsX12_stepNamed := goodIn_r _ [32, 1, 33, 34, 35, 8, 36, 17, 121, 122, 123, 124, 125, 126, 127, 128, 129, 130, 131, 132, 133, 134, 135, 136, 137, 138, 139] rfl (by decide +kernel)
set_option maxRecDepth 20000 in
theorem gX12_parseStep_X12_stepNamed : GoodIn wsX12_parseStep (wsV RX12 208 RX12 yX12_stepNamed wsX12_stepNamed) := goodIn_app (goodIn_of _ (by decide +kernel)) ggX12_parseStep_X12_stepNamed
set_option maxRecDepth 20000 in
theorem ggX12_parseStep_X12_putName : GoodIn wsX12_parseStep wsX12_putName := goodIn_r _ [40, 1, 3, 2, 17, 12, 13, 14, 8, 15, 16, 4, 18, 19, 20, 21, 22, 23, 24, 121, 122, 123, 124, 125, 126, 127, 128, 129, 130, 131, 132, 133, 134, 135, 136, 137, 138, 139] rfl (by decide +kernel)
set_option maxRecDepth 20000 in
theorem gX12_parseStep_X12_putName : GoodIn wsX12_parseStep (wsV RX12 199 RX12 yX12_putName wsX12_putName) := goodIn_app (goodIn_of _ (by decide +kernel)) ggX12_parseStep_X12_putName
set_option maxRecDepth 20000 in
theorem ggX12_parseStep_X12_parseRanged : GoodIn wsX12_parseStep wsX12_parseRanged := goodIn_r _ [44, 4, 18, 1, 5, 6, 7, 8, 9, 10, 2, 11, 45, 46, 47, 12, 13, 14, 15, 3, 16, 17, 19, 20, 21, 22, 23, 24, 121, 122, 123, 124, 125, 126, 127, 128, 129, 130, 131, 132, 133, 134, 135, 136, 137, 138, 139] rfl (by decide +kernel)
set_option maxRecDepth 20000 in
theorem gX12_parseStep_X12_parseRanged : GoodIn wsX12_parseStep (wsV RX12 202 RX12 yX12_parseRanged wsX12_parseRanged) := goodIn_app (goodIn_of _ (by decide +kernel)) ggX12_parseStep_X12_parseRanged
set_option maxRecDepth 20000 in
theorem ggX12_parseStep_X12_parsePanType : GoodIn wsX12_parseStep wsX12_parsePanType := goodIn_r _ [51, 1, 2, 3, 52, 53, 54, 8, 55, 56, 57, 58, 59, 4, 17, 60, 61, 62, 63, 64, 65, 66, 67, 68, 69, 70, 71, 72, 73, 74, 75, 76, 77, 78, 79, 80, 81, 82, 83, 84, 85, 86, 87, 88, 89, 90, 91, 92, 93, 94, 95, 96, 97, 98, 99, 100, 101, 102, 103, 104, 105, 106, 107, 108, 12, 13, 14, 15, 16, 18, 19, 20, 21, 22, 23, 24, 25, 26, 27, 28, 5, 6, 7, 9, 10, 11, 109, 110, 111, 112, 33, 34, 35, 36, 121, 122, 123, 124, 125, 126, 127, 128, 129, 130, 131, 132, 133, 134, 135, 136, 137, 138, 139] rfl (by decide +kernel)
set_option maxRecDepth 20000 in
theorem gX12_parseStep_X12_parsePanType : GoodIn wsX12_parseStep (wsV RX12 215 RX12 yX12_parsePanType wsX12_parsePanType) := goodIn_app (goodIn_of _ (by decide +kernel)) ggX12_parseStep_X12_parsePanType
set_option maxRecDepth 20000 in
theorem ggX12_parseStep_X12_takes : GoodIn wsX12_parseStep wsX12_takes := goodIn_r _ [55, 56, 57, 58, 8, 59, 4, 3, 2, 17, 60, 61, 62, 63, 64, 65, 66, 67, 68, 69, 70, 71, 72, 73, 74, 75, 76, 77, 78, 79, 80, 81, 82, 83, 84, 85, 86, 87, 88, 89, 90, 91, 92, 93, 94, 95, 96, 97, 98, 99, 100, 101, 102, 103, 104, 105, 106, 107, 108, 12, 13, 14, 15, 16, 18, 19, 20, 21, 22, 23, 24, 121, 122, 123, 124, 125, 126, 127, 128, 129, 130, 131, 132, 133, 134, 135, 136, 137, 138, 139] rfl (by decide +kernel)
set_option maxRecDepth 20000 in
theorem gX12_parseStep_X12_takes : GoodIn wsX12_parseStep (wsV RX12 212 RX12 yX12_takes wsX12_takes) := goodIn_app (goodIn_of _ (by decide +kernel)) ggX12_parseStep_X12_takes
set_option maxRecDepth 20000 in
theorem ggX12_parseStep_X12_parsePredecessor : GoodIn wsX12_parseStep wsX12_parsePredecessor := goodIn_r _ [116, 2, 3, 1, 25, 26, 27, 8, 28, 4, 5, 6, 7, 9, 10, 11, 29, 30, 31, 32, 33, 34, 35, 36, 17, 12, 13, 14, 15, 16, 18, 19, 20, 21, 22, 23, 24, 121, 122, 123, 124, 125, 126, 127, 128, 129, 130, 131, 132, 133, 134, 135, 136, 137, 138, 139] rfl (by decide +kernel)
set_option maxRecDepth 20000 in
theorem gX12_parseStep_X12_parsePredecessor : GoodIn wsX12_parseStep (wsV RX12 224 RX12 yX12_parsePredecessor wsX12_parsePredecessor) := goodIn_app (goodIn_of _ (by decide +kernel)) ggX12_parseStep_X12_parsePredecessor
set_option maxRecDepth 20000 in
theorem ggX12_parseStep_X12_semicolon : GoodIn wsX12_parseStep wsX12_semicolon := goodIn_r _ [120, 4, 5, 6, 7, 8, 9, 10, 2, 11, 12, 13, 14, 15, 3, 16, 17, 18, 19, 20, 21, 22, 23, 24, 121, 122, 123, 124, 125, 126, 127, 128, 129, 130, 131, 132, 133, 134, 135, 136, 137, 138, 139] rfl (by decide +kernel)
set_option maxRecDepth 20000 in
theorem gX12_parseStep_X12_semicolon : GoodIn wsX12_parseStep (wsV RX12 205 RX12 yX12_semicolon wsX12_semicolon) := goodIn_app (goodIn_of _ (by decide +kernel)) ggX12_parseStep_X12_semicolon
theorem dX12_parseStep_0 : decode cX12_parseStep 0 = .ok (.aload_n 0, 1) := by decide +kernel
theorem dX12_parseStep_1 : decode cX12_parseStep 1 = .ok (.getfield 13, 3) := by decide +kernel
theorem dX12_parseStep_4 : decode cX12_parseStep 4 = .ok (.bipush 13, 2) := by decide +kernel
theorem dX12_parseStep_6 : decode cX12_parseStep 6 = .ok (.iaload, 1) := by decide +kernel
theorem dX12_parseStep_7 : decode cX12_parseStep 7 = .ok (.bipush 14, 2) := by decide +kernel
theorem dX12_parseStep_9 : decode cX12_parseStep 9 = .ok (.if_icmp .ne 9, 3) := by decide +kernel
theorem dX12_parseStep_12 : decode cX12_parseStep 12 = .ok (.aload_n 0, 1) := by decide +kernel
theorem dX12_parseStep_13 : decode cX12_parseStep 13 = .ok (.iconst 5, 1) := by decide +kernel
theorem dX12_parseStep_14 : decode cX12_parseStep 14 = .ok (.invokevirtual 187, 3) := by decide +kernel
theorem dX12_parseStep_17 : decode cX12_parseStep 17 = .ok (.ireturn, 1) := by decide +kernel
theorem dX12_parseStep_18 : decode cX12_parseStep 18 = .ok (.aload_n 0, 1) := by decide +kernel
theorem dX12_parseStep_19 : decode cX12_parseStep 19 = .ok (.invokevirtual 180, 3) := by decide +kernel
theorem dX12_parseStep_22 : decode cX12_parseStep 22 = .ok (.aload_n 0, 1) := by decide +kernel
