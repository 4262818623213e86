theorem dX12_parseStep_23 : decode cX12_parseStep 23 = .ok (.invokevirtual 193, 3) := by decide +kernel
theorem dX12_parseStep_26 : decode cX12_parseStep 26 = .ok (.ifCond .ne 5, 3) := by decide +kernel
theorem dX12_parseStep_29 : decode cX12_parseStep 29 = .ok (.iconst 0, 1) := by decide +kernel
theorem dX12_parseStep_30 : decode cX12_parseStep 30 = .ok (.ireturn, 1) := by decide +kernel
theorem dX12_parseStep_31 : decode cX12_parseStep 31 = .ok (.aload_n 0, 1) := by decide +kernel
theorem dX12_parseStep_32 : decode cX12_parseStep 32 = .ok (.aload_n 0, 1) := by decide +kernel
theorem dX12_parseStep_33 : decode cX12_parseStep 33 = .ok (.getfield 60, 3) := by decide +kernel
theorem dX12_parseStep_36 : decode cX12_parseStep 36 = .ok (.aload_n 0, 1) := by decide +kernel
theorem dX12_parseStep_37 : decode cX12_parseStep 37 = .ok (.getfield 54, 3) := by decide +kernel
theorem dX12_parseStep_40 : decode cX12_parseStep 40 = .ok (.aload_n 0, 1) := by decide +kernel
theorem dX12_parseStep_41 : decode cX12_parseStep 41 = .ok (.getfield 60, 3) := by decide +kernel
theorem dX12_parseStep_44 : decode cX12_parseStep 44 = .ok (.isub, 1) := by decide +kernel
theorem dX12_parseStep_45 : decode cX12_parseStep 45 = .ok (.invokevirtual 208, 3) := by decide +kernel
theorem dX12_parseStep_48 : decode cX12_parseStep 48 = .ok (.iconst (-1), 1) := by decide +kernel
theorem dX12_parseStep_49 : decode cX12_parseStep 49 = .ok (.if_icmp .eq 9, 3) := by decide +kernel
theorem dX12_parseStep_52 : decode cX12_parseStep 52 = .ok (.aload_n 0, 1) := by decide +kernel
theorem dX12_parseStep_53 : decode cX12_parseStep 53 = .ok (.iconst 3, 1) := by decide +kernel
theorem dX12_parseStep_54 : decode cX12_parseStep 54 = .ok (.invokevirtual 187, 3) := by decide +kernel
theorem dX12_parseStep_57 : decode cX12_parseStep 57 = .ok (.ireturn, 1) := by decide +kernel
theorem dX12_parseStep_58 : decode cX12_parseStep 58 = .ok (.bipush 46, 2) := by decide +kernel
theorem dX12_parseStep_60 : decode cX12_parseStep 60 = .ok (.aload_n 0, 1) := by decide +kernel
theorem dX12_parseStep_61 : decode cX12_parseStep 61 = .ok (.getfield 13, 3) := by decide +kernel
theorem dX12_parseStep_64 : decode cX12_parseStep 64 = .ok (.bipush 13, 2) := by decide +kernel
theorem dX12_parseStep_66 : decode cX12_parseStep 66 = .ok (.iaload, 1) := by decide +kernel
theorem dX12_parseStep_67 : decode cX12_parseStep 67 = .ok (.bipush 24, 2) := by decide +kernel
theorem dX12_parseStep_69 : decode cX12_parseStep 69 = .ok (.imul, 1) := by decide +kernel
theorem dX12_parseStep_70 : decode cX12_parseStep 70 = .ok (.iadd, 1) := by decide +kernel
theorem dX12_parseStep_71 : decode cX12_parseStep 71 = .ok (.istore_n 1, 1) := by decide +kernel
theorem dX12_parseStep_72 : decode cX12_parseStep 72 = .ok (.iconst 0, 1) := by decide +kernel
theorem dX12_parseStep_73 : decode cX12_parseStep 73 = .ok (.istore_n 2, 1) := by decide +kernel
theorem dX12_parseStep_74 : decode cX12_parseStep 74 = .ok (.iload_n 2, 1) := by decide +kernel
theorem dX12_parseStep_75 : decode cX12_parseStep 75 = .ok (.bipush 24, 2) := by decide +kernel
theorem dX12_parseStep_77 : decode cX12_parseStep 77 = .ok (.if_icmp .ge 18, 3) := by decide +kernel
theorem dX12_parseStep_80 : decode cX12_parseStep 80 = .ok (.aload_n 0, 1) := by decide +kernel
theorem dX12_parseStep_81 : decode cX12_parseStep 81 = .ok (.getfield 13, 3) := by decide +kernel
theorem dX12_parseStep_84 : decode cX12_parseStep 84 = .ok (.iload_n 1, 1) := by decide +kernel
theorem dX12_parseStep_85 : decode cX12_parseStep 85 = .ok (.iload_n 2, 1) := by decide +kernel
theorem dX12_parseStep_86 : decode cX12_parseStep 86 = .ok (.iadd, 1) := by decide +kernel
theorem dX12_parseStep_87 : decode cX12_parseStep 87 = .ok (.iconst 0, 1) := by decide +kernel
theorem dX12_parseStep_88 : decode cX12_parseStep 88 = .ok (.iastore, 1) := by decide +kernel
theorem dX12_parseStep_89 : decode cX12_parseStep 89 = .ok (.iinc 2 1, 3) := by decide +kernel
theorem dX12_parseStep_92 : decode cX12_parseStep 92 = .ok (.goto (-18), 3) := by decide +kernel
theorem dX12_parseStep_95 : decode cX12_parseStep 95 = .ok (.aload_n 0, 1) := by decide +kernel
theorem dX12_parseStep_96 : decode cX12_parseStep 96 = .ok (.iload_n 1, 1) := by decide +kernel
theorem dX12_parseStep_97 : decode cX12_parseStep 97 = .ok (.invokevirtual 199, 3) := by decide +kernel
theorem dX12_parseStep_100 : decode cX12_parseStep 100 = .ok (.aload_n 0, 1) := by decide +kernel
theorem dX12_parseStep_101 : decode cX12_parseStep 101 = .ok (.iload_n 1, 1) := by decide +kernel
theorem dX12_parseStep_102 : decode cX12_parseStep 102 = .ok (.bipush 7, 2) := by decide +kernel
theorem dX12_parseStep_104 : decode cX12_parseStep 104 = .ok (.iadd, 1) := by decide +kernel
theorem dX12_parseStep_105 : decode cX12_parseStep 105 = .ok (.iconst 1, 1) := by decide +kernel
theorem dX12_parseStep_106 : decode cX12_parseStep 106 = .ok (.bipush 60, 2) := by decide +kernel
theorem dX12_parseStep_108 : decode cX12_parseStep 108 = .ok (.invokevirtual 202, 3) := by decide +kernel
theorem dX12_parseStep_111 : decode cX12_parseStep 111 = .ok (.ifCond .eq 25, 3) := by decide +kernel
theorem dX12_parseStep_114 : decode cX12_parseStep 114 = .ok (.aload_n 0, 1) := by decide +kernel
theorem dX12_parseStep_115 : decode cX12_parseStep 115 = .ok (.iload_n 1, 1) := by decide +kernel
theorem dX12_parseStep_116 : decode cX12_parseStep 116 = .ok (.bipush 8, 2) := by decide +kernel
theorem dX12_parseStep_118 : decode cX12_parseStep 118 = .ok (.iadd, 1) := by decide +kernel
theorem dX12_parseStep_119 : decode cX12_parseStep 119 = .ok (.iconst 0, 1) := by decide +kernel
theorem dX12_parseStep_120 : decode cX12_parseStep 120 = .ok (.bipush 9, 2) := by decide +kernel
theorem dX12_parseStep_122 : decode cX12_parseStep 122 = .ok (.invokevirtual 202, 3) := by decide +kernel
theorem dX12_parseStep_125 : decode cX12_parseStep 125 = .ok (.ifCond .eq 11, 3) := by decide +kernel
theorem dX12_parseStep_128 : decode cX12_parseStep 128 = .ok (.aload_n 0, 1) := by decide +kernel
theorem dX12_parseStep_129 : decode cX12_parseStep 129 = .ok (.iload_n 1, 1) := by decide +kernel
theorem dX12_parseStep_130 : decode cX12_parseStep 130 = .ok (.invokevirtual 215, 3) := by decide +kernel
theorem dX12_parseStep_133 : decode cX12_parseStep 133 = .ok (.ifCond .ne 5, 3) := by decide +kernel
theorem dX12_parseStep_136 : decode cX12_parseStep 136 = .ok (.iconst 0, 1) := by decide +kernel
theorem dX12_parseStep_137 : decode cX12_parseStep 137 = .ok (.ireturn, 1) := by decide +kernel
theorem dX12_parseStep_138 : decode cX12_parseStep 138 = .ok (.aload_n 0, 1) := by decide +kernel
theorem dX12_parseStep_139 : decode cX12_parseStep 139 = .ok (.getfield 13, 3) := by decide +kernel
theorem dX12_parseStep_142 : decode cX12_parseStep 142 = .ok (.iload_n 1, 1) := by decide +kernel
theorem dX12_parseStep_143 : decode cX12_parseStep 143 = .ok (.bipush 10, 2) := by decide +kernel
theorem dX12_parseStep_145 : decode cX12_parseStep 145 = .ok (.iadd, 1) := by decide +kernel
theorem dX12_parseStep_146 : decode cX12_parseStep 146 = .ok (.aload_n 0, 1) := by decide +kernel
theorem dX12_parseStep_147 : decode cX12_parseStep 147 = .ok (.ldc 218, 2) := by decide +kernel
theorem dX12_parseStep_149 : decode cX12_parseStep 149 = .ok (.invokevirtual 212, 3) := by decide +kernel
theorem dX12_parseStep_152 : decode cX12_parseStep 152 = .ok (.ifCond .eq 7, 3) := by decide +kernel
theorem dX12_parseStep_155 : decode cX12_parseStep 155 = .ok (.iconst 1, 1) := by decide +kernel
theorem dX12_parseStep_156 : decode cX12_parseStep 156 = .ok (.goto 4, 3) := by decide +kernel
theorem dX12_parseStep_159 : decode cX12_parseStep 159 = .ok (.iconst 0, 1) := by decide +kernel
theorem dX12_parseStep_160 : decode cX12_parseStep 160 = .ok (.iastore, 1) := by decide +kernel
theorem dX12_parseStep_161 : decode cX12_parseStep 161 = .ok (.aload_n 0, 1) := by decide +kernel
theorem dX12_parseStep_162 : decode cX12_parseStep 162 = .ok (.getfield 13, 3) := by decide +kernel
theorem dX12_parseStep_165 : decode cX12_parseStep 165 = .ok (.iload_n 1, 1) := by decide +kernel
theorem dX12_parseStep_166 : decode cX12_parseStep 166 = .ok (.bipush 11, 2) := by decide +kernel
theorem dX12_parseStep_168 : decode cX12_parseStep 168 = .ok (.iadd, 1) := by decide +kernel
theorem dX12_parseStep_169 : decode cX12_parseStep 169 = .ok (.aload_n 0, 1) := by decide +kernel
theorem dX12_parseStep_170 : decode cX12_parseStep 170 = .ok (.ldc 220, 2) := by decide +kernel
theorem dX12_parseStep_172 : decode cX12_parseStep 172 = .ok (.invokevirtual 212, 3) := by decide +kernel
theorem dX12_parseStep_175 : decode cX12_parseStep 175 = .ok (.ifCond .eq 7, 3) := by decide +kernel
theorem dX12_parseStep_178 : decode cX12_parseStep 178 = .ok (.iconst 1, 1) := by decide +kernel
theorem dX12_parseStep_179 : decode cX12_parseStep 179 = .ok (.goto 4, 3) := by decide +kernel
theorem dX12_parseStep_182 : decode cX12_parseStep 182 = .ok (.iconst 0, 1) := by decide +kernel
theorem dX12_parseStep_183 : decode cX12_parseStep 183 = .ok (.iastore, 1) := by decide +kernel
theorem dX12_parseStep_184 : decode cX12_parseStep 184 = .ok (.aload_n 0, 1) := by decide +kernel
theorem dX12_parseStep_185 : decode cX12_parseStep 185 = .ok (.ldc 222, 2) := by decide +kernel
theorem dX12_parseStep_187 : decode cX12_parseStep 187 = .ok (.invokevirtual 212, 3) := by decide +kernel
theorem dX12_parseStep_190 : decode cX12_parseStep 190 = .ok (.ifCond .eq 31, 3) := by decide +kernel
theorem dX12_parseStep_193 : decode cX12_parseStep 193 = .ok (.aload_n 0, 1) := by decide +kernel
theorem dX12_parseStep_194 : decode cX12_parseStep 194 = .ok (.iload_n 1, 1) := by decide +kernel
theorem dX12_parseStep_195 : decode cX12_parseStep 195 = .ok (.invokevirtual 224, 3) := by decide +kernel
theorem dX12_parseStep_198 : decode cX12_parseStep 198 = .ok (.ifCond .ne 5, 3) := by decide +kernel
theorem dX12_parseStep_201 : decode cX12_parseStep 201 = .ok (.iconst 0, 1) := by decide +kernel
theorem dX12_parseStep_202 : decode cX12_parseStep 202 = .ok (.ireturn, 1) := by decide +kernel
theorem dX12_parseStep_203 : decode cX12_parseStep 203 = .ok (.aload_n 0, 1) := by decide +kernel
theorem dX12_parseStep_204 : decode cX12_parseStep 204 = .ok (.getfield 57, 3) := by decide +kernel
theorem dX12_parseStep_207 : decode cX12_parseStep 207 = .ok (.iconst 1, 1) := by decide +kernel
theorem dX12_parseStep_208 : decode cX12_parseStep 208 = .ok (.if_icmp .ne 13, 3) := by decide +kernel
theorem dX12_parseStep_211 : decode cX12_parseStep 211 = .ok (.aload_n 0, 1) := by decide +kernel
theorem dX12_parseStep_212 : decode cX12_parseStep 212 = .ok (.iload_n 1, 1) := by decide +kernel
theorem dX12_parseStep_213 : decode cX12_parseStep 213 = .ok (.invokevirtual 224, 3) := by decide +kernel
theorem dX12_parseStep_216 : decode cX12_parseStep 216 = .ok (.ifCond .ne (-13), 3) := by decide +kernel
theorem dX12_parseStep_219 : decode cX12_parseStep 219 = .ok (.iconst 0, 1) := by decide +kernel
theorem dX12_parseStep_220 : decode cX12_parseStep 220 = .ok (.ireturn, 1) := by decide +kernel
theorem dX12_parseStep_221 : decode cX12_parseStep 221 = .ok (.aload_n 0, 1) := by decide +kernel
theorem dX12_parseStep_222 : decode cX12_parseStep 222 = .ok (.invokevirtual 205, 3) := by decide +kernel
theorem dX12_parseStep_225 : decode cX12_parseStep 225 = .ok (.ifCond .ne 5, 3) := by decide +kernel
theorem dX12_parseStep_228 : decode cX12_parseStep 228 = .ok (.iconst 0, 1) := by decide +kernel
theorem dX12_parseStep_229 : decode cX12_parseStep 229 = .ok (.ireturn, 1) := by decide +kernel
theorem dX12_parseStep_230 : decode cX12_parseStep 230 = .ok (.aload_n 0, 1) := by decide +kernel
theorem dX12_parseStep_231 : decode cX12_parseStep 231 = .ok (.getfield 13, 3) := by decide +kernel
theorem dX12_parseStep_234 : decode cX12_parseStep 234 = .ok (.bipush 13, 2) := by decide +kernel
theorem dX12_parseStep_236 : decode cX12_parseStep 236 = .ok (.dup2, 1) := by decide +kernel
theorem dX12_parseStep_237 : decode cX12_parseStep 237 = .ok (.iaload, 1) := by decide +kernel
theorem dX12_parseStep_238 : decode cX12_parseStep 238 = .ok (.iconst 1, 1) := by decide +kernel
theorem dX12_parseStep_239 : decode cX12_parseStep 239 = .ok (.iadd, 1) := by decide +kernel
theorem dX12_parseStep_240 : decode cX12_parseStep 240 = .ok (.iastore, 1) := by decide +kernel
theorem dX12_parseStep_241 : decode cX12_parseStep 241 = .ok (.iconst 1, 1) := by decide +kernel
theorem dX12_parseStep_242 : decode cX12_parseStep 242 = .ok (.ireturn, 1) := by decide +kernel
set_option maxRecDepth 20000 in
theorem ggX12_parseSetup_X12_isWord : GoodIn wsX12_parseSetup wsX12_isWord := goodIn_r _ [7, 2, 8, 9, 10, 11, 12, 13, 14, 15, 16, 17, 18, 19, 20, 21, 22, 23, 24, 25, 26, 27, 28, 29, 30, 31, 32, 33, 34, 35, 36, 37, 38, 39, 40, 41, 42, 43, 44, 45, 46, 47, 48, 49, 50, 51, 52, 53, 54, 55, 56, 57, 58, 59, 129, 130, 131, 132, 133, 134, 135, 136, 137, 138, 139, 140, 141, 142, 143, 144, 145, 146, 147] rfl (by decide +kernel)
set_option maxRecDepth 20000 in
theorem gX12_parseSetup_X12_isWord : GoodIn wsX12_parseSetup (wsV RX12 183 RX12 yX12_isWord wsX12_isWord) := goodIn_app (goodIn_of _ (by decide +kernel)) ggX12_parseSetup_X12_isWord
set_option maxRecDepth 20000 in
theorem ggX12_parseSetup_X12_wrong : GoodIn wsX12_parseSetup wsX12_wrong := goodIn_r _ [63, 64, 9, 65, 129, 130, 131, 132, 133, 134, 135, 136, 137, 138, 139, 140, 141, 142, 143, 144, 145, 146, 147] rfl (by decide +kernel)
set_option maxRecDepth 20000 in
theorem gX12_parseSetup_X12_wrong : GoodIn wsX12_parseSetup (wsV RX12 187 RX12 yX12_wrong wsX12_wrong) := goodIn_app (goodIn_of _ (by decide +kernel)) ggX12_parseSetup_X12_wrong
set_option maxRecDepth 20000 in
theorem ggX12_parseSetup_X12_token : GoodIn wsX12_parseSetup wsX12_token := goodIn_r _ [69, 8, 70, 10, 9, 2, 71, 72, 73, 6, 74, 75, 76, 77, 129, 130, 131, 132, 133, 134, 135, 136, 137, 138, 139, 140, 141, 142, 143, 144, 145, 146, 147] rfl (by decide +kernel)
set_option maxRecDepth 20000 in
theorem gX12_parseSetup_X12_token : GoodIn wsX12_parseSetup (wsV RX12 180 RX12 yX12_token wsX12_token) := goodIn_app (goodIn_of _ (by decide +kernel)) ggX12_parseSetup_X12_token
set_option maxRecDepth 20000 in
theorem ggX12_parseSetup_X12_parseRanged : GoodIn wsX12_parseSetup wsX12_parseRanged := goodIn_r _ [81, 2, 71, 1, 60, 61, 62, 6, 63, 64, 9, 65, 82, 83, 84, 66, 67, 68, 69, 8, 70, 10, 72, 73, 74, 75, 76, 77, 129, 130, 131, 132, 133, 134, 135, 136, 137, 138, 139, 140, 141, 142, 143, 144, 145, 146, 147] rfl (by decide +kernel)
set_option maxRecDepth 20000 in
theorem gX12_parseSetup_X12_parseRanged : GoodIn wsX12_parseSetup (wsV RX12 202 RX12 yX12_parseRanged wsX12_parseRanged) := goodIn_app (goodIn_of _ (by decide +kernel)) ggX12_parseSetup_X12_parseRanged
set_option maxRecDepth 20000 in
theorem ggX12_parseSetup_X12_semicolon : GoodIn wsX12_parseSetup wsX12_semicolon := goodIn_r _ [88, 2, 60, 61, 62, 6, 63, 64, 9, 65, 66, 67, 68, 69, 8, 70, 10, 71, 72, 73, 74, 75, 76, 77, 129, 130, 131, 132, 133, 134, 135, 136, 137, 138, 139, 140, 141, 142, 143, 144, 145, 146, 147] rfl (by decide +kernel)
set_option maxRecDepth 20000 in
theorem gX12_parseSetup_X12_semicolon : GoodIn wsX12_parseSetup (wsV RX12 205 RX12 yX12_semicolon wsX12_semicolon) := goodIn_app (goodIn_of _ (by decide +kernel)) ggX12_parseSetup_X12_semicolon
set_option maxRecDepth 20000 in
theorem ggX12_parseSetup_X12_parsePan : GoodIn wsX12_parseSetup wsX12_parsePan := goodIn_r _ [92, 1, 9, 8, 60, 61, 62, 6, 63, 64, 65, 66, 67, 68, 69, 70, 10, 2, 71, 72, 73, 74, 75, 76, 77, 93, 94, 95, 96, 97, 98, 99, 100, 101, 102, 103, 104, 105, 106, 107, 108, 78, 79, 80, 81, 82, 83, 84, 85, 86, 87, 88, 129, 130, 131, 132, 133, 134, 135, 136, 137, 138, 139, 140, 141, 142, 143, 144, 145, 146, 147] rfl (by decide +kernel)
set_option maxRecDepth 20000 in
theorem gX12_parseSetup_X12_parsePan : GoodIn wsX12_parseSetup (wsV RX12 231 RX12 yX12_parsePan wsX12_parsePan) := goodIn_app (goodIn_of _ (by decide +kernel)) ggX12_parseSetup_X12_parsePan
set_option maxRecDepth 20000 in
theorem ggX12_parseSetup_X12_parseStep : GoodIn wsX12_parseSetup wsX12_parseStep := goodIn_r _ [112, 1, 9, 8, 2, 60, 61, 62, 6, 63, 64, 65, 66, 67, 68, 69, 70, 10, 71, 72, 73, 74, 75, 76, 77, 93, 94, 95, 96, 113, 114, 115, 116, 101, 102, 103, 104, 105, 106, 107, 108, 78, 79, 80, 81, 82, 83, 84, 117, 118, 119, 120, 121, 122, 123, 124, 3, 4, 5, 7, 11, 12, 13, 14, 15, 16, 17, 18, 19, 20, 21, 22, 23, 24, 25, 26, 27, 28, 29, 30, 31, 32, 33, 34, 35, 36, 37, 38, 39, 40, 41, 42, 43, 44, 45, 46, 47, 48, 49, 50, 51, 52, 53, 54, 55, 56, 57, 58, 59, 97, 98, 99, 100, 125, 126, 127, 128, 85, 86, 87, 88, 129, 130, 131, 132, 133, 134, 135, 136, 137, 138, 139, 140, 141, 142, 143, 144, 145, 146, 147] rfl (by decide +kernel)
set_option maxRecDepth 20000 in
theorem gX12_parseSetup_X12_parseStep : GoodIn wsX12_parseSetup (wsV RX12 236 RX12 yX12_parseStep wsX12_parseStep) := goodIn_app (goodIn_of _ (by decide +kernel)) ggX12_parseSetup_X12_parseStep
theorem dX12_parseSetup_0 : decode cX12_parseSetup 0 = .ok (.iconst 0, 1) := by decide +kernel
theorem dX12_parseSetup_1 : decode cX12_parseSetup 1 = .ok (.istore_n 1, 1) := by decide +kernel
theorem dX12_parseSetup_2 : decode cX12_parseSetup 2 = .ok (.iload_n 1, 1) := by decide +kernel
theorem dX12_parseSetup_3 : decode cX12_parseSetup 3 = .ok (.sipush 382, 3) := by decide +kernel
theorem dX12_parseSetup_6 : decode cX12_parseSetup 6 = .ok (.if_icmp .ge 16, 3) := by decide +kernel
theorem dX12_parseSetup_9 : decode cX12_parseSetup 9 = .ok (.aload_n 0, 1) := by decide +kernel
theorem dX12_parseSetup_10 : decode cX12_parseSetup 10 = .ok (.getfield 13, 3) := by decide +kernel
theorem dX12_parseSetup_13 : decode cX12_parseSetup 13 = .ok (.iload_n 1, 1) := by decide +kernel
theorem dX12_parseSetup_14 : decode cX12_parseSetup 14 = .ok (.iconst 0, 1) := by decide +kernel
theorem dX12_parseSetup_15 : decode cX12_parseSetup 15 = .ok (.iastore, 1) := by decide +kernel
theorem dX12_parseSetup_16 : decode cX12_parseSetup 16 = .ok (.iinc 1 1, 3) := by decide +kernel
theorem dX12_parseSetup_19 : decode cX12_parseSetup 19 = .ok (.goto (-17), 3) := by decide +kernel
theorem dX12_parseSetup_22 : decode cX12_parseSetup 22 = .ok (.aload_n 0, 1) := by decide +kernel
theorem dX12_parseSetup_23 : decode cX12_parseSetup 23 = .ok (.ldc 227, 2) := by decide +kernel
theorem dX12_parseSetup_25 : decode cX12_parseSetup 25 = .ok (.invokevirtual 183, 3) := by decide +kernel
theorem dX12_parseSetup_28 : decode cX12_parseSetup 28 = .ok (.ifCond .ne 9, 3) := by decide +kernel
theorem dX12_parseSetup_31 : decode cX12_parseSetup 31 = .ok (.aload_n 0, 1) := by decide +kernel
theorem dX12_parseSetup_32 : decode cX12_parseSetup 32 = .ok (.iconst 1, 1) := by decide +kernel
theorem dX12_parseSetup_33 : decode cX12_parseSetup 33 = .ok (.invokevirtual 187, 3) := by decide +kernel
theorem dX12_parseSetup_36 : decode cX12_parseSetup 36 = .ok (.ireturn, 1) := by decide +kernel
theorem dX12_parseSetup_37 : decode cX12_parseSetup 37 = .ok (.aload_n 0, 1) := by decide +kernel
theorem dX12_parseSetup_38 : decode cX12_parseSetup 38 = .ok (.invokevirtual 180, 3) := by decide +kernel
theorem dX12_parseSetup_41 : decode cX12_parseSetup 41 = .ok (.aload_n 0, 1) := by decide +kernel
theorem dX12_parseSetup_42 : decode cX12_parseSetup 42 = .ok (.iconst 0, 1) := by decide +kernel
theorem dX12_parseSetup_43 : decode cX12_parseSetup 43 = .ok (.iconst 1, 1) := by decide +kernel
theorem dX12_parseSetup_44 : decode cX12_parseSetup 44 = .ok (.iconst 4, 1) := by decide +kernel
theorem dX12_parseSetup_45 : decode cX12_parseSetup 45 = .ok (.invokevirtual 202, 3) := by decide +kernel
theorem dX12_parseSetup_48 : decode cX12_parseSetup 48 = .ok (.ifCond .eq 48, 3) := by decide +kernel
theorem dX12_parseSetup_51 : decode cX12_parseSetup 51 = .ok (.aload_n 0, 1) := by decide +kernel
theorem dX12_parseSetup_52 : decode cX12_parseSetup 52 = .ok (.iconst 1, 1) := by decide +kernel
theorem dX12_parseSetup_53 : decode cX12_parseSetup 53 = .ok (.iconst 0, 1) := by decide +kernel
theorem dX12_parseSetup_54 : decode cX12_parseSetup 54 = .ok (.bipush 30, 2) := by decide +kernel
theorem dX12_parseSetup_56 : decode cX12_parseSetup 56 = .ok (.invokevirtual 202, 3) := by decide +kernel
theorem dX12_parseSetup_59 : decode cX12_parseSetup 59 = .ok (.ifCond .eq 37, 3) := by decide +kernel
theorem dX12_parseSetup_62 : decode cX12_parseSetup 62 = .ok (.aload_n 0, 1) := by decide +kernel
theorem dX12_parseSetup_63 : decode cX12_parseSetup 63 = .ok (.iconst 2, 1) := by decide +kernel
theorem dX12_parseSetup_64 : decode cX12_parseSetup 64 = .ok (.iconst 0, 1) := by decide +kernel
theorem dX12_parseSetup_65 : decode cX12_parseSetup 65 = .ok (.bipush 99, 2) := by decide +kernel
theorem dX12_parseSetup_67 : decode cX12_parseSetup 67 = .ok (.invokevirtual 202, 3) := by decide +kernel
theorem dX12_parseSetup_70 : decode cX12_parseSetup 70 = .ok (.ifCond .eq 26, 3) := by decide +kernel
theorem dX12_parseSetup_73 : decode cX12_parseSetup 73 = .ok (.aload_n 0, 1) := by decide +kernel
theorem dX12_parseSetup_74 : decode cX12_parseSetup 74 = .ok (.iconst 3, 1) := by decide +kernel
theorem dX12_parseSetup_75 : decode cX12_parseSetup 75 = .ok (.aload_n 0, 1) := by decide +kernel
theorem dX12_parseSetup_76 : decode cX12_parseSetup 76 = .ok (.getfield 13, 3) := by decide +kernel
theorem dX12_parseSetup_79 : decode cX12_parseSetup 79 = .ok (.iconst 2, 1) := by decide +kernel
theorem dX12_parseSetup_80 : decode cX12_parseSetup 80 = .ok (.iaload, 1) := by decide +kernel
theorem dX12_parseSetup_81 : decode cX12_parseSetup 81 = .ok (.bipush 99, 2) := by decide +kernel
theorem dX12_parseSetup_83 : decode cX12_parseSetup 83 = .ok (.invokevirtual 202, 3) := by decide +kernel
theorem dX12_parseSetup_86 : decode cX12_parseSetup 86 = .ok (.ifCond .eq 10, 3) := by decide +kernel
theorem dX12_parseSetup_89 : decode cX12_parseSetup 89 = .ok (.aload_n 0, 1) := by decide +kernel
theorem dX12_parseSetup_90 : decode cX12_parseSetup 90 = .ok (.invokevirtual 205, 3) := by decide +kernel
theorem dX12_parseSetup_93 : decode cX12_parseSetup 93 = .ok (.ifCond .ne 5, 3) := by decide +kernel
theorem dX12_parseSetup_96 : decode cX12_parseSetup 96 = .ok (.iconst 0, 1) := by decide +kernel
theorem dX12_parseSetup_97 : decode cX12_parseSetup 97 = .ok (.ireturn, 1) := by decide +kernel
theorem dX12_parseSetup_98 : decode cX12_parseSetup 98 = .ok (.aload_n 0, 1) := by decide +kernel
theorem dX12_parseSetup_99 : decode cX12_parseSetup 99 = .ok (.ldc 229, 2) := by decide +kernel
theorem dX12_parseSetup_101 : decode cX12_parseSetup 101 = .ok (.invokevirtual 183, 3) := by decide +kernel
theorem dX12_parseSetup_104 : decode cX12_parseSetup 104 = .ok (.ifCond .eq 12, 3) := by decide +kernel
theorem dX12_parseSetup_107 : decode cX12_parseSetup 107 = .ok (.aload_n 0, 1) := by decide +kernel
theorem dX12_parseSetup_108 : decode cX12_parseSetup 108 = .ok (.invokevirtual 231, 3) := by decide +kernel
theorem dX12_parseSetup_111 : decode cX12_parseSetup 111 = .ok (.ifCond .ne (-13), 3) := by decide +kernel
theorem dX12_parseSetup_114 : decode cX12_parseSetup 114 = .ok (.iconst 0, 1) := by decide +kernel
theorem dX12_parseSetup_115 : decode cX12_parseSetup 115 = .ok (.ireturn, 1) := by decide +kernel
theorem dX12_parseSetup_116 : decode cX12_parseSetup 116 = .ok (.aload_n 0, 1) := by decide +kernel
theorem dX12_parseSetup_117 : decode cX12_parseSetup 117 = .ok (.ldc 234, 2) := by decide +kernel
theorem dX12_parseSetup_119 : decode cX12_parseSetup 119 = .ok (.invokevirtual 183, 3) := by decide +kernel
theorem dX12_parseSetup_122 : decode cX12_parseSetup 122 = .ok (.ifCond .ne 9, 3) := by decide +kernel
theorem dX12_parseSetup_125 : decode cX12_parseSetup 125 = .ok (.aload_n 0, 1) := by decide +kernel
theorem dX12_parseSetup_126 : decode cX12_parseSetup 126 = .ok (.iconst 1, 1) := by decide +kernel
theorem dX12_parseSetup_127 : decode cX12_parseSetup 127 = .ok (.invokevirtual 187, 3) := by decide +kernel
theorem dX12_parseSetup_130 : decode cX12_parseSetup 130 = .ok (.ireturn, 1) := by decide +kernel
theorem dX12_parseSetup_131 : decode cX12_parseSetup 131 = .ok (.aload_n 0, 1) := by decide +kernel
theorem dX12_parseSetup_132 : decode cX12_parseSetup 132 = .ok (.ldc 234, 2) := by decide +kernel
theorem dX12_parseSetup_134 : decode cX12_parseSetup 134 = .ok (.invokevirtual 183, 3) := by decide +kernel
theorem dX12_parseSetup_137 : decode cX12_parseSetup 137 = .ok (.ifCond .eq 12, 3) := by decide +kernel
theorem dX12_parseSetup_140 : decode cX12_parseSetup 140 = .ok (.aload_n 0, 1) := by decide +kernel
theorem dX12_parseSetup_141 : decode cX12_parseSetup 141 = .ok (.invokevirtual 236, 3) := by decide +kernel
theorem dX12_parseSetup_144 : decode cX12_parseSetup 144 = .ok (.ifCond .ne (-13), 3) := by decide +kernel
theorem dX12_parseSetup_147 : decode cX12_parseSetup 147 = .ok (.iconst 0, 1) := by decide +kernel
theorem dX12_parseSetup_148 : decode cX12_parseSetup 148 = .ok (.ireturn, 1) := by decide +kernel
theorem dX12_parseSetup_149 : decode cX12_parseSetup 149 = .ok (.aload_n 0, 1) := by decide +kernel
theorem dX12_parseSetup_150 : decode cX12_parseSetup 150 = .ok (.getfield 57, 3) := by decide +kernel
theorem dX12_parseSetup_153 : decode cX12_parseSetup 153 = .ok (.ifCond .eq 11, 3) := by decide +kernel
theorem dX12_parseSetup_156 : decode cX12_parseSetup 156 = .ok (.aload_n 0, 1) := by decide +kernel
theorem dX12_parseSetup_157 : decode cX12_parseSetup 157 = .ok (.iconst 1, 1) := by decide +kernel
theorem dX12_parseSetup_158 : decode cX12_parseSetup 158 = .ok (.invokevirtual 187, 3) := by decide +kernel
theorem dX12_parseSetup_161 : decode cX12_parseSetup 161 = .ok (.ifCond .eq 7, 3) := by decide +kernel
theorem dX12_parseSetup_164 : decode cX12_parseSetup 164 = .ok (.iconst 1, 1) := by decide +kernel
theorem dX12_parseSetup_165 : decode cX12_parseSetup 165 = .ok (.goto 4, 3) := by decide +kernel
theorem dX12_parseSetup_168 : decode cX12_parseSetup 168 = .ok (.iconst 0, 1) := by decide +kernel
theorem dX12_parseSetup_169 : decode cX12_parseSetup 169 = .ok (.ireturn, 1) := by decide +kernel
set_option maxRecDepth 20000 in
theorem ggX12_load_X12_copyBlock : GoodIn wsX12_load wsX12_copyBlock := goodIn_r _ [9, 4, 148, 149, 150, 151, 152, 153, 154, 155, 156, 157, 158, 159, 160, 161, 162, 163, 164, 165, 166] rfl (by decide +kernel)
set_option maxRecDepth 20000 in
theorem gX12_load_X12_copyBlock : GoodIn wsX12_load (wsV RX12 91 RX12 yX12_copyBlock wsX12_copyBlock) := goodIn_app (goodIn_of _ (by decide +kernel)) ggX12_load_X12_copyBlock
set_option maxRecDepth 20000 in
theorem ggX12_load_X12_begin : GoodIn wsX12_load wsX12_begin := goodIn_r _ [13, 14, 15, 16, 17, 18, 19, 8, 20, 1, 21, 22, 23, 24, 25, 26, 27, 28, 29, 30, 148, 149, 150, 151, 152, 153, 154, 155, 156, 157, 158, 159, 160, 161, 162, 163, 164, 165, 166] rfl (by decide +kernel)
set_option maxRecDepth 20000 in
theorem gX12_load_X12_begin : GoodIn wsX12_load (wsV RX12 80 RX12 yX12_begin wsX12_begin) := goodIn_app (goodIn_of _ (by decide +kernel)) ggX12_load_X12_begin
set_option maxRecDepth 20000 in
theorem ggX12_load_X12_parseSetup : GoodIn wsX12_load wsX12_parseSetup := goodIn_r _ [34, 4, 23, 35, 36, 37, 8, 38, 16, 22, 21, 39, 40, 41, 42, 43, 44, 45, 46, 47, 48, 49, 50, 51, 52, 53, 54, 55, 56, 57, 58, 59, 60, 61, 62, 63, 64, 65, 66, 67, 68, 69, 70, 71, 72, 73, 74, 75, 76, 77, 78, 79, 80, 81, 82, 83, 84, 85, 86, 87, 88, 89, 90, 91, 14, 15, 17, 18, 19, 20, 1, 24, 25, 26, 27, 28, 29, 30, 92, 93, 94, 95, 96, 97, 98, 99, 100, 101, 102, 103, 104, 105, 106, 107, 108, 109, 110, 111, 112, 113, 114, 115, 116, 117, 118, 119, 120, 121, 122, 123, 124, 125, 126, 127, 128, 129, 130, 131, 132, 133, 134, 135, 136, 137, 138, 139, 140, 141, 142, 148, 149, 150, 151, 152, 153, 154, 155, 156, 157, 158, 159, 160, 161, 162, 163, 164, 165, 166] rfl (by decide +kernel)
set_option maxRecDepth 20000 in
theorem gX12_load_X12_parseSetup : GoodIn wsX12_load (wsV RX12 83 RX12 yX12_parseSetup wsX12_parseSetup) := goodIn_app (goodIn_of _ (by decide +kernel)) ggX12_load_X12_parseSetup
set_option maxRecDepth 20000 in
theorem ggX12_load_X12_fails : GoodIn wsX12_load wsX12_fails := goodIn_r _ [146, 147, 148, 149, 150, 151, 152, 153, 154, 155, 156, 157, 158, 159, 160, 161, 162, 163, 164, 165, 166] rfl (by decide +kernel)
set_option maxRecDepth 20000 in
theorem gX12_load_X12_fails : GoodIn wsX12_load (wsV RX12 167 RX12 yX12_fails wsX12_fails) := goodIn_app (goodIn_of _ (by decide +kernel)) ggX12_load_X12_fails
theorem dX12_load_0 : decode cX12_load 0 = .ok (.aload_n 0, 1) := by decide +kernel
theorem dX12_load_1 : decode cX12_load 1 = .ok (.iconst 0, 1) := by decide +kernel
theorem dX12_load_2 : decode cX12_load 2 = .ok (.bipush 9, 2) := by decide +kernel
theorem dX12_load_4 : decode cX12_load 4 = .ok (.invokevirtual 91, 3) := by decide +kernel
theorem dX12_load_7 : decode cX12_load 7 = .ok (.aload_n 0, 1) := by decide +kernel
theorem dX12_load_8 : decode cX12_load 8 = .ok (.invokevirtual 80, 3) := by decide +kernel
theorem dX12_load_11 : decode cX12_load 11 = .ok (.aload_n 0, 1) := by decide +kernel
theorem dX12_load_12 : decode cX12_load 12 = .ok (.invokevirtual 83, 3) := by decide +kernel
theorem dX12_load_15 : decode cX12_load 15 = .ok (.istore_n 1, 1) := by decide +kernel
theorem dX12_load_16 : decode cX12_load 16 = .ok (.aload_n 0, 1) := by decide +kernel
theorem dX12_load_17 : decode cX12_load 17 = .ok (.iconst 0, 1) := by decide +kernel
theorem dX12_load_18 : decode cX12_load 18 = .ok (.putfield 27, 3) := by decide +kernel
theorem dX12_load_21 : decode cX12_load 21 = .ok (.iload_n 1, 1) := by decide +kernel
theorem dX12_load_22 : decode cX12_load 22 = .ok (.ifCond .ne 10, 3) := by decide +kernel
theorem dX12_load_25 : decode cX12_load 25 = .ok (.aload_n 0, 1) := by decide +kernel
theorem dX12_load_26 : decode cX12_load 26 = .ok (.bipush 9, 2) := by decide +kernel
theorem dX12_load_28 : decode cX12_load 28 = .ok (.iconst 0, 1) := by decide +kernel
theorem dX12_load_29 : decode cX12_load 29 = .ok (.invokevirtual 91, 3) := by decide +kernel
theorem dX12_load_32 : decode cX12_load 32 = .ok (.aload_n 0, 1) := by decide +kernel
theorem dX12_load_33 : decode cX12_load 33 = .ok (.iload_n 1, 1) := by decide +kernel
theorem dX12_load_34 : decode cX12_load 34 = .ok (.ifCond .ne 7, 3) := by decide +kernel
theorem dX12_load_37 : decode cX12_load 37 = .ok (.iconst 1, 1) := by decide +kernel
theorem dX12_load_38 : decode cX12_load 38 = .ok (.goto 4, 3) := by decide +kernel
theorem dX12_load_41 : decode cX12_load 41 = .ok (.iconst 0, 1) := by decide +kernel
theorem dX12_load_42 : decode cX12_load 42 = .ok (.iconst 0, 1) := by decide +kernel
theorem dX12_load_43 : decode cX12_load 43 = .ok (.iconst 0, 1) := by decide +kernel
theorem dX12_load_44 : decode cX12_load 44 = .ok (.invokevirtual 167, 3) := by decide +kernel
theorem dX12_load_47 : decode cX12_load 47 = .ok (.ifCond .eq 5, 3) := by decide +kernel
theorem dX12_load_50 : decode cX12_load 50 = .ok (.iconst 0, 1) := by decide +kernel
theorem dX12_load_51 : decode cX12_load 51 = .ok (.ireturn, 1) := by decide +kernel
theorem dX12_load_52 : decode cX12_load 52 = .ok (.aload_n 0, 1) := by decide +kernel
theorem dX12_load_53 : decode cX12_load 53 = .ok (.iconst 0, 1) := by decide +kernel
theorem dX12_load_54 : decode cX12_load 54 = .ok (.putfield 21, 3) := by decide +kernel
theorem dX12_load_57 : decode cX12_load 57 = .ok (.aload_n 0, 1) := by decide +kernel
theorem dX12_load_58 : decode cX12_load 58 = .ok (.getfield 17, 3) := by decide +kernel
theorem dX12_load_61 : decode cX12_load 61 = .ok (.iconst 0, 1) := by decide +kernel
theorem dX12_load_62 : decode cX12_load 62 = .ok (.iconst 0, 1) := by decide +kernel
theorem dX12_load_63 : decode cX12_load 63 = .ok (.bastore, 1) := by decide +kernel
theorem dX12_load_64 : decode cX12_load 64 = .ok (.aload_n 0, 1) := by decide +kernel
theorem dX12_load_65 : decode cX12_load 65 = .ok (.getfield 17, 3) := by decide +kernel
theorem dX12_load_68 : decode cX12_load 68 = .ok (.iconst 1, 1) := by decide +kernel
theorem dX12_load_69 : decode cX12_load 69 = .ok (.iconst 0, 1) := by decide +kernel
theorem dX12_load_70 : decode cX12_load 70 = .ok (.bastore, 1) := by decide +kernel
theorem dX12_load_71 : decode cX12_load 71 = .ok (.aload_n 0, 1) := by decide +kernel
theorem dX12_load_72 : decode cX12_load 72 = .ok (.getfield 13, 3) := by decide +kernel
theorem dX12_load_75 : decode cX12_load 75 = .ok (.bipush 13, 2) := by decide +kernel
theorem dX12_load_77 : decode cX12_load 77 = .ok (.iaload, 1) := by decide +kernel
theorem dX12_load_78 : decode cX12_load 78 = .ok (.ireturn, 1) := by decide +kernel
theorem dX12_nameOf_0 : decode cX12_nameOf 0 = .ok (.iload_n 0, 1) := by decide +kernel
theorem dX12_nameOf_1 : decode cX12_nameOf 1 = .ok (.tableswitch 64 0 6 #[43, 46, 49, 52, 55, 58, 61], 43) := by decide +kernel
theorem dX12_nameOf_44 : decode cX12_nameOf 44 = .ok (.ldc 239, 2) := by decide +kernel
theorem dX12_nameOf_46 : decode cX12_nameOf 46 = .ok (.areturn, 1) := by decide +kernel
theorem dX12_nameOf_47 : decode cX12_nameOf 47 = .ok (.ldc 241, 2) := by decide +kernel
theorem dX12_nameOf_49 : decode cX12_nameOf 49 = .ok (.areturn, 1) := by decide +kernel
theorem dX12_nameOf_50 : decode cX12_nameOf 50 = .ok (.ldc 243, 2) := by decide +kernel
theorem dX12_nameOf_52 : decode cX12_nameOf 52 = .ok (.areturn, 1) := by decide +kernel
theorem dX12_nameOf_53 : decode cX12_nameOf 53 = .ok (.ldc 245, 2) := by decide +kernel
theorem dX12_nameOf_55 : decode cX12_nameOf 55 = .ok (.areturn, 1) := by decide +kernel
theorem dX12_nameOf_56 : decode cX12_nameOf 56 = .ok (.ldc 247, 2) := by decide +kernel
theorem dX12_nameOf_58 : decode cX12_nameOf 58 = .ok (.areturn, 1) := by decide +kernel
theorem dX12_nameOf_59 : decode cX12_nameOf 59 = .ok (.ldc 249, 2) := by decide +kernel
theorem dX12_nameOf_61 : decode cX12_nameOf 61 = .ok (.areturn, 1) := by decide +kernel
theorem dX12_nameOf_62 : decode cX12_nameOf 62 = .ok (.ldc 251, 2) := by decide +kernel
theorem dX12_nameOf_64 : decode cX12_nameOf 64 = .ok (.areturn, 1) := by decide +kernel
theorem dX12_nameOf_65 : decode cX12_nameOf 65 = .ok (.ldc 253, 2) := by decide +kernel
theorem dX12_nameOf_67 : decode cX12_nameOf 67 = .ok (.areturn, 1) := by decide +kernel
set_option maxRecDepth 20000 in
theorem ggX12_commandHere_X12_nameOf : GoodIn wsX12_commandHere wsX12_nameOf := goodIn_r _ [4] rfl (by decide +kernel)
set_option maxRecDepth 20000 in
theorem gX12_commandHere_X12_nameOf : GoodIn wsX12_commandHere (va_wsS RX12 255 yX12_nameOf wsX12_nameOf) := goodIn_app (goodIn_of _ (by decide +kernel)) ggX12_commandHere_X12_nameOf
set_option maxRecDepth 20000 in
theorem ggX12_commandHere_X12_isWord : GoodIn wsX12_commandHere wsX12_isWord := goodIn_r _ [8, 9, 10, 11, 12, 13, 14, 15, 16, 17, 18, 19, 20, 21, 22, 23, 24, 25, 26, 27, 28, 29, 30, 31, 32, 33, 34, 35, 36, 37, 38, 39, 40, 41, 42, 43, 44, 45, 46, 47, 48, 49, 50, 51, 52, 53, 54, 55, 56, 57, 58, 59, 60, 61, 62, 63, 64, 65, 66, 67, 68, 69, 70, 71, 72, 73, 74, 75, 76, 77, 78, 79, 80] rfl (by decide +kernel)
set_option maxRecDepth 20000 in
theorem gX12_commandHere_X12_isWord : GoodIn wsX12_commandHere (wsV RX12 183 RX12 yX12_isWord wsX12_isWord) := goodIn_app (goodIn_of _ (by decide +kernel)) ggX12_commandHere_X12_isWord
theorem dX12_commandHere_0 : decode cX12_commandHere 0 = .ok (.iconst 0, 1) := by decide +kernel
theorem dX12_commandHere_1 : decode cX12_commandHere 1 = .ok (.istore_n 1, 1) := by decide +kernel
theorem dX12_commandHere_2 : decode cX12_commandHere 2 = .ok (.iload_n 1, 1) := by decide +kernel
theorem dX12_commandHere_3 : decode cX12_commandHere 3 = .ok (.bipush 7, 2) := by decide +kernel
theorem dX12_commandHere_5 : decode cX12_commandHere 5 = .ok (.if_icmp .gt 22, 3) := by decide +kernel
theorem dX12_commandHere_8 : decode cX12_commandHere 8 = .ok (.aload_n 0, 1) := by decide +kernel
theorem dX12_commandHere_9 : decode cX12_commandHere 9 = .ok (.iload_n 1, 1) := by decide +kernel
theorem dX12_commandHere_10 : decode cX12_commandHere 10 = .ok (.invokestatic 255, 3) := by decide +kernel
theorem dX12_commandHere_13 : decode cX12_commandHere 13 = .ok (.invokevirtual 183, 3) := by decide +kernel
theorem dX12_commandHere_16 : decode cX12_commandHere 16 = .ok (.ifCond .eq 5, 3) := by decide +kernel
theorem dX12_commandHere_19 : decode cX12_commandHere 19 = .ok (.iload_n 1, 1) := by decide +kernel
theorem dX12_commandHere_20 : decode cX12_commandHere 20 = .ok (.ireturn, 1) := by decide +kernel
theorem dX12_commandHere_21 : decode cX12_commandHere 21 = .ok (.iinc 1 1, 3) := by decide +kernel
theorem dX12_commandHere_24 : decode cX12_commandHere 24 = .ok (.goto (-22), 3) := by decide +kernel
theorem dX12_commandHere_27 : decode cX12_commandHere 27 = .ok (.iconst (-1), 1) := by decide +kernel
theorem dX12_commandHere_28 : decode cX12_commandHere 28 = .ok (.ireturn, 1) := by decide +kernel
set_option maxRecDepth 20000 in
theorem ggX12_parseNumber_X12_wrong : GoodIn wsX12_parseNumber wsX12_wrong := goodIn_r _ [8, 9, 10, 11, 25, 26, 27, 28, 29, 30, 31, 32, 33, 34, 35, 36, 37, 38, 39, 40, 41, 42, 43] rfl (by decide +kernel)
set_option maxRecDepth 20000 in
theorem gX12_parseNumber_X12_wrong : GoodIn wsX12_parseNumber (wsV RX12 187 RX12 yX12_wrong wsX12_wrong) := goodIn_app (goodIn_of _ (by decide +kernel)) ggX12_parseNumber_X12_wrong
set_option maxRecDepth 20000 in
theorem ggX12_parseNumber_X12_token : GoodIn wsX12_parseNumber wsX12_token := goodIn_r _ [15, 16, 17, 18, 10, 1, 3, 19, 20, 7, 21, 22, 23, 24, 25, 26, 27, 28, 29, 30, 31, 32, 33, 34, 35, 36, 37, 38, 39, 40, 41, 42, 43] rfl (by decide +kernel)
set_option maxRecDepth 20000 in
theorem gX12_parseNumber_X12_token : GoodIn wsX12_parseNumber (wsV RX12 180 RX12 yX12_token wsX12_token) := goodIn_app (goodIn_of _ (by decide +kernel)) ggX12_parseNumber_X12_token
theorem dX12_parseNumber_0 : decode cX12_parseNumber 0 = .ok (.aload_n 0, 1) := by decide +kernel
theorem dX12_parseNumber_1 : decode cX12_parseNumber 1 = .ok (.getfield 57, 3) := by decide +kernel
theorem dX12_parseNumber_4 : decode cX12_parseNumber 4 = .ok (.iconst 2, 1) := by decide +kernel
theorem dX12_parseNumber_5 : decode cX12_parseNumber 5 = .ok (.if_icmp .eq 9, 3) := by decide +kernel
theorem dX12_parseNumber_8 : decode cX12_parseNumber 8 = .ok (.aload_n 0, 1) := by decide +kernel
theorem dX12_parseNumber_9 : decode cX12_parseNumber 9 = .ok (.iconst 1, 1) := by decide +kernel
theorem dX12_parseNumber_10 : decode cX12_parseNumber 10 = .ok (.invokevirtual 187, 3) := by decide +kernel
theorem dX12_parseNumber_13 : decode cX12_parseNumber 13 = .ok (.ireturn, 1) := by decide +kernel
theorem dX12_parseNumber_14 : decode cX12_parseNumber 14 = .ok (.aload_n 0, 1) := by decide +kernel
theorem dX12_parseNumber_15 : decode cX12_parseNumber 15 = .ok (.getfield 66, 3) := by decide +kernel
theorem dX12_parseNumber_18 : decode cX12_parseNumber 18 = .ok (.iload_n 1, 1) := by decide +kernel
theorem dX12_parseNumber_19 : decode cX12_parseNumber 19 = .ok (.aload_n 0, 1) := by decide +kernel
theorem dX12_parseNumber_20 : decode cX12_parseNumber 20 = .ok (.getfield 63, 3) := by decide +kernel
theorem dX12_parseNumber_23 : decode cX12_parseNumber 23 = .ok (.iastore, 1) := by decide +kernel
theorem dX12_parseNumber_24 : decode cX12_parseNumber 24 = .ok (.aload_n 0, 1) := by decide +kernel
theorem dX12_parseNumber_25 : decode cX12_parseNumber 25 = .ok (.invokevirtual 180, 3) := by decide +kernel
theorem dX12_parseNumber_28 : decode cX12_parseNumber 28 = .ok (.iconst 1, 1) := by decide +kernel
theorem dX12_parseNumber_29 : decode cX12_parseNumber 29 = .ok (.ireturn, 1) := by decide +kernel
set_option maxRecDepth 20000 in
theorem ggX12_parseStepName_X12_isShortWord : GoodIn wsX12_parseStepName wsX12_isShortWord := goodIn_r _ [8, 9, 3, 2, 10, 11, 12, 7, 13, 14, 15, 38, 39, 40, 41, 42, 43, 44, 45, 46, 47, 48, 49, 50, 51, 52, 53, 54, 55, 56] rfl (by decide +kernel)
set_option maxRecDepth 20000 in
theorem gX12_parseStepName_X12_isShortWord : GoodIn wsX12_parseStepName (wsV RX12 193 RX12 yX12_isShortWord wsX12_isShortWord) := goodIn_app (goodIn_of _ (by decide +kernel)) ggX12_parseStepName_X12_isShortWord
set_option maxRecDepth 20000 in
theorem ggX12_parseStepName_X12_stepNamed : GoodIn wsX12_parseStepName wsX12_stepNamed := goodIn_r _ [19, 20, 21, 22, 23, 7, 24, 25, 38, 39, 40, 41, 42, 43, 44, 45, 46, 47, 48, 49, 50, 51, 52, 53, 54, 55, 56] rfl (by decide +kernel)
set_option maxRecDepth 20000 in
theorem gX12_parseStepName_X12_stepNamed : GoodIn wsX12_parseStepName (wsV RX12 208 RX12 yX12_stepNamed wsX12_stepNamed) := goodIn_app (goodIn_of _ (by decide +kernel)) ggX12_parseStepName_X12_stepNamed
set_option maxRecDepth 20000 in
theorem ggX12_parseStepName_X12_wrong : GoodIn wsX12_parseStepName wsX12_wrong := goodIn_r _ [13, 14, 2, 15, 38, 39, 40, 41, 42, 43, 44, 45, 46, 47, 48, 49, 50, 51, 52, 53, 54, 55, 56] rfl (by decide +kernel)
set_option maxRecDepth 20000 in
theorem gX12_parseStepName_X12_wrong : GoodIn wsX12_parseStepName (wsV RX12 187 RX12 yX12_wrong wsX12_wrong) := goodIn_app (goodIn_of _ (by decide +kernel)) ggX12_parseStepName_X12_wrong
set_option maxRecDepth 20000 in
theorem ggX12_parseStepName_X12_token : GoodIn wsX12_parseStepName wsX12_token := goodIn_r _ [29, 3, 30, 25, 2, 9, 31, 32, 33, 7, 34, 35, 36, 37, 38, 39, 40, 41, 42, 43, 44, 45, 46, 47, 48, 49, 50, 51, 52, 53, 54, 55, 56] rfl (by decide +kernel)
set_option maxRecDepth 20000 in
theorem gX12_parseStepName_X12_token : GoodIn wsX12_parseStepName (wsV RX12 180 RX12 yX12_token wsX12_token) := goodIn_app (goodIn_of _ (by decide +kernel)) ggX12_parseStepName_X12_token
theorem dX12_parseStepName_0 : decode cX12_parseStepName 0 = .ok (.aload_n 0, 1) := by decide +kernel
theorem dX12_parseStepName_1 : decode cX12_parseStepName 1 = .ok (.invokevirtual 193, 3) := by decide +kernel
theorem dX12_parseStepName_4 : decode cX12_parseStepName 4 = .ok (.ifCond .ne 5, 3) := by decide +kernel
theorem dX12_parseStepName_7 : decode cX12_parseStepName 7 = .ok (.iconst 0, 1) := by decide +kernel
theorem dX12_parseStepName_8 : decode cX12_parseStepName 8 = .ok (.ireturn, 1) := by decide +kernel
theorem dX12_parseStepName_9 : decode cX12_parseStepName 9 = .ok (.aload_n 0, 1) := by decide +kernel
theorem dX12_parseStepName_10 : decode cX12_parseStepName 10 = .ok (.getfield 66, 3) := by decide +kernel
theorem dX12_parseStepName_13 : decode cX12_parseStepName 13 = .ok (.iload_n 1, 1) := by decide +kernel
theorem dX12_parseStepName_14 : decode cX12_parseStepName 14 = .ok (.aload_n 0, 1) := by decide +kernel
theorem dX12_parseStepName_15 : decode cX12_parseStepName 15 = .ok (.aload_n 0, 1) := by decide +kernel
theorem dX12_parseStepName_16 : decode cX12_parseStepName 16 = .ok (.getfield 60, 3) := by decide +kernel
theorem dX12_parseStepName_19 : decode cX12_parseStepName 19 = .ok (.aload_n 0, 1) := by decide +kernel
theorem dX12_parseStepName_20 : decode cX12_parseStepName 20 = .ok (.getfield 54, 3) := by decide +kernel
theorem dX12_parseStepName_23 : decode cX12_parseStepName 23 = .ok (.aload_n 0, 1) := by decide +kernel
theorem dX12_parseStepName_24 : decode cX12_parseStepName 24 = .ok (.getfield 60, 3) := by decide +kernel
theorem dX12_parseStepName_27 : decode cX12_parseStepName 27 = .ok (.isub, 1) := by decide +kernel
theorem dX12_parseStepName_28 : decode cX12_parseStepName 28 = .ok (.invokevirtual 208, 3) := by decide +kernel
theorem dX12_parseStepName_31 : decode cX12_parseStepName 31 = .ok (.iastore, 1) := by decide +kernel
theorem dX12_parseStepName_32 : decode cX12_parseStepName 32 = .ok (.aload_n 0, 1) := by decide +kernel
theorem dX12_parseStepName_33 : decode cX12_parseStepName 33 = .ok (.getfield 66, 3) := by decide +kernel
theorem dX12_parseStepName_36 : decode cX12_parseStepName 36 = .ok (.iload_n 1, 1) := by decide +kernel
theorem dX12_parseStepName_37 : decode cX12_parseStepName 37 = .ok (.iaload, 1) := by decide +kernel
theorem dX12_parseStepName_38 : decode cX12_parseStepName 38 = .ok (.iconst (-1), 1) := by decide +kernel
theorem dX12_parseStepName_39 : decode cX12_parseStepName 39 = .ok (.if_icmp .ne 9, 3) := by decide +kernel
theorem dX12_parseStepName_42 : decode cX12_parseStepName 42 = .ok (.aload_n 0, 1) := by decide +kernel
theorem dX12_parseStepName_43 : decode cX12_parseStepName 43 = .ok (.iconst 3, 1) := by decide +kernel
theorem dX12_parseStepName_44 : decode cX12_parseStepName 44 = .ok (.invokevirtual 187, 3) := by decide +kernel
theorem dX12_parseStepName_47 : decode cX12_parseStepName 47 = .ok (.ireturn, 1) := by decide +kernel
theorem dX12_parseStepName_48 : decode cX12_parseStepName 48 = .ok (.aload_n 0, 1) := by decide +kernel
theorem dX12_parseStepName_49 : decode cX12_parseStepName 49 = .ok (.invokevirtual 180, 3) := by decide +kernel
theorem dX12_parseStepName_52 : decode cX12_parseStepName 52 = .ok (.iconst 1, 1) := by decide +kernel
theorem dX12_parseStepName_53 : decode cX12_parseStepName 53 = .ok (.ireturn, 1) := by decide +kernel
set_option maxRecDepth 20000 in
theorem ggX12_parseArguments_X12_parseStepName : GoodIn wsX12_parseArguments wsX12_parseStepName := goodIn_r _ [5, 6, 7, 8, 9, 10, 11, 4, 12, 13, 14, 15, 16, 17, 18, 19, 20, 21, 22, 23, 24, 25, 26, 27, 28, 29, 30, 31, 32, 33, 34, 35, 36, 37, 38, 39, 40, 41, 46, 47, 48, 49, 50, 51, 52, 53, 54, 55, 56, 57, 58, 59, 60, 61, 62, 63, 64] rfl (by decide +kernel)
set_option maxRecDepth 20000 in
theorem gX12_parseArguments_X12_parseStepName : GoodIn wsX12_parseArguments (wsV RX12 259 RX12 yX12_parseStepName wsX12_parseStepName) := goodIn_app (goodIn_of _ (by decide +kernel)) ggX12_parseArguments_X12_parseStepName
set_option maxRecDepth 20000 in
theorem ggX12_parseArguments_X12_parseNumber : GoodIn wsX12_parseArguments wsX12_parseNumber := goodIn_r _ [45, 13, 6, 35, 14, 15, 16, 4, 17, 18, 7, 19, 30, 31, 32, 33, 8, 34, 29, 36, 37, 38, 39, 40, 41, 46, 47, 48, 49, 50, 51, 52, 53, 54, 55, 56, 57, 58, 59, 60, 61, 62, 63, 64] rfl (by decide +kernel)
set_option maxRecDepth 20000 in
theorem gX12_parseArguments_X12_parseNumber : GoodIn wsX12_parseArguments (wsV RX12 262 RX12 yX12_parseNumber wsX12_parseNumber) := goodIn_app (goodIn_of _ (by decide +kernel)) ggX12_parseArguments_X12_parseNumber
theorem dX12_parseArguments_0 : decode cX12_parseArguments 0 = .ok (.iload_n 1, 1) := by decide +kernel
theorem dX12_parseArguments_1 : decode cX12_parseArguments 1 = .ok (.tableswitch 67 3 7 #[37, 37, 67, 43, 35], 35) := by decide +kernel
theorem dX12_parseArguments_36 : decode cX12_parseArguments 36 = .ok (.iconst 1, 1) := by decide +kernel
theorem dX12_parseArguments_37 : decode cX12_parseArguments 37 = .ok (.ireturn, 1) := by decide +kernel
theorem dX12_parseArguments_38 : decode cX12_parseArguments 38 = .ok (.aload_n 0, 1) := by decide +kernel
theorem dX12_parseArguments_39 : decode cX12_parseArguments 39 = .ok (.iload_n 2, 1) := by decide +kernel
theorem dX12_parseArguments_40 : decode cX12_parseArguments 40 = .ok (.invokevirtual 259, 3) := by decide +kernel
theorem dX12_parseArguments_43 : decode cX12_parseArguments 43 = .ok (.ireturn, 1) := by decide +kernel
theorem dX12_parseArguments_44 : decode cX12_parseArguments 44 = .ok (.aload_n 0, 1) := by decide +kernel
theorem dX12_parseArguments_45 : decode cX12_parseArguments 45 = .ok (.iload_n 2, 1) := by decide +kernel
theorem dX12_parseArguments_46 : decode cX12_parseArguments 46 = .ok (.invokevirtual 259, 3) := by decide +kernel
theorem dX12_parseArguments_49 : decode cX12_parseArguments 49 = .ok (.ifCond .eq 17, 3) := by decide +kernel
theorem dX12_parseArguments_52 : decode cX12_parseArguments 52 = .ok (.aload_n 0, 1) := by decide +kernel
theorem dX12_parseArguments_53 : decode cX12_parseArguments 53 = .ok (.iload_n 2, 1) := by decide +kernel
theorem dX12_parseArguments_54 : decode cX12_parseArguments 54 = .ok (.iconst 1, 1) := by decide +kernel
theorem dX12_parseArguments_55 : decode cX12_parseArguments 55 = .ok (.iadd, 1) := by decide +kernel
theorem dX12_parseArguments_56 : decode cX12_parseArguments 56 = .ok (.invokevirtual 262, 3) := by decide +kernel
theorem dX12_parseArguments_59 : decode cX12_parseArguments 59 = .ok (.ifCond .eq 7, 3) := by decide +kernel
theorem dX12_parseArguments_62 : decode cX12_parseArguments 62 = .ok (.iconst 1, 1) := by decide +kernel
theorem dX12_parseArguments_63 : decode cX12_parseArguments 63 = .ok (.goto 4, 3) := by decide +kernel
theorem dX12_parseArguments_66 : decode cX12_parseArguments 66 = .ok (.iconst 0, 1) := by decide +kernel
theorem dX12_parseArguments_67 : decode cX12_parseArguments 67 = .ok (.ireturn, 1) := by decide +kernel
theorem dX12_parseArguments_68 : decode cX12_parseArguments 68 = .ok (.aload_n 0, 1) := by decide +kernel
theorem dX12_parseArguments_69 : decode cX12_parseArguments 69 = .ok (.iload_n 2, 1) := by decide +kernel
theorem dX12_parseArguments_70 : decode cX12_parseArguments 70 = .ok (.invokevirtual 262, 3) := by decide +kernel
theorem dX12_parseArguments_73 : decode cX12_parseArguments 73 = .ok (.ireturn, 1) := by decide +kernel
set_option maxRecDepth 20000 in
theorem ggX12_parseScript_X12_commandHere : GoodIn wsX12_parseScript wsX12_commandHere := goodIn_r _ [7, 8, 9, 6, 10, 11, 12, 13, 14, 1, 15, 16, 17, 18, 19, 20, 21, 22, 23, 24, 25, 26, 27, 28, 29, 30, 31, 32, 33, 34, 35, 36, 37, 38, 39, 40, 41, 42, 43, 44, 45, 46, 47, 48, 49, 50, 51, 52, 53, 54, 55, 56, 57, 58, 59, 60, 61, 62, 63, 64, 65, 66, 114, 115, 116, 117, 118, 119, 120, 121, 122, 123, 124, 125, 126, 127, 128, 129, 130, 131, 132] rfl (by decide +kernel)
set_option maxRecDepth 20000 in
theorem gX12_parseScript_X12_commandHere : GoodIn wsX12_parseScript (wsV RX12 265 RX12 yX12_commandHere wsX12_commandHere) := goodIn_app (goodIn_of _ (by decide +kernel)) ggX12_parseScript_X12_commandHere
set_option maxRecDepth 20000 in
theorem ggX12_parseScript_X12_wrong : GoodIn wsX12_parseScript wsX12_wrong := goodIn_r _ [70, 71, 16, 72, 114, 115, 116, 117, 118, 119, 120, 121, 122, 123, 124, 125, 126, 127, 128, 129, 130, 131, 132] rfl (by decide +kernel)
set_option maxRecDepth 20000 in
theorem gX12_parseScript_X12_wrong : GoodIn wsX12_parseScript (wsV RX12 187 RX12 yX12_wrong wsX12_wrong) := goodIn_app (goodIn_of _ (by decide +kernel)) ggX12_parseScript_X12_wrong
set_option maxRecDepth 20000 in
theorem ggX12_parseScript_X12_token : GoodIn wsX12_parseScript wsX12_token := goodIn_r _ [76, 15, 77, 17, 16, 1, 78, 79, 80, 6, 81, 82, 83, 84, 114, 115, 116, 117, 118, 119, 120, 121, 122, 123, 124, 125, 126, 127, 128, 129, 130, 131, 132] rfl (by decide +kernel)
set_option maxRecDepth 20000 in
theorem gX12_parseScript_X12_token : GoodIn wsX12_parseScript (wsV RX12 180 RX12 yX12_token wsX12_token) := goodIn_app (goodIn_of _ (by decide +kernel)) ggX12_parseScript_X12_token
set_option maxRecDepth 20000 in
theorem ggX12_parseScript_X12_parseArguments : GoodIn wsX12_parseScript wsX12_parseArguments := goodIn_r _ [88, 89, 90, 91, 6, 92, 2, 16, 15, 93, 94, 95, 96, 1, 67, 68, 69, 70, 71, 72, 97, 98, 99, 100, 101, 102, 103, 104, 105, 17, 73, 74, 75, 76, 77, 78, 79, 80, 81, 82, 83, 84, 106, 107, 108, 109, 114, 115, 116, 117, 118, 119, 120, 121, 122, 123, 124, 125, 126, 127, 128, 129, 130, 131, 132] rfl (by decide +kernel)
set_option maxRecDepth 20000 in
theorem gX12_parseScript_X12_parseArguments : GoodIn wsX12_parseScript (wsV RX12 268 RX12 yX12_parseArguments wsX12_parseArguments) := goodIn_app (goodIn_of _ (by decide +kernel)) ggX12_parseScript_X12_parseArguments
set_option maxRecDepth 20000 in
theorem ggX12_parseScript_X12_semicolon : GoodIn wsX12_parseScript wsX12_semicolon := goodIn_r _ [113, 1, 67, 68, 69, 6, 70, 71, 16, 72, 73, 74, 75, 76, 15, 77, 17, 78, 79, 80, 81, 82, 83, 84, 114, 115, 116, 117, 118, 119, 120, 121, 122, 123, 124, 125, 126, 127, 128, 129, 130, 131, 132] rfl (by decide +kernel)
set_option maxRecDepth 20000 in
theorem gX12_parseScript_X12_semicolon : GoodIn wsX12_parseScript (wsV RX12 205 RX12 yX12_semicolon wsX12_semicolon) := goodIn_app (goodIn_of _ (by decide +kernel)) ggX12_parseScript_X12_semicolon
theorem dX12_parseScript_0 : decode cX12_parseScript 0 = .ok (.iconst 0, 1) := by decide +kernel
theorem dX12_parseScript_1 : decode cX12_parseScript 1 = .ok (.istore_n 1, 1) := by decide +kernel
theorem dX12_parseScript_2 : decode cX12_parseScript 2 = .ok (.aload_n 0, 1) := by decide +kernel
theorem dX12_parseScript_3 : decode cX12_parseScript 3 = .ok (.getfield 57, 3) := by decide +kernel
theorem dX12_parseScript_6 : decode cX12_parseScript 6 = .ok (.ifCond .eq 88, 3) := by decide +kernel
theorem dX12_parseScript_9 : decode cX12_parseScript 9 = .ok (.aload_n 0, 1) := by decide +kernel
theorem dX12_parseScript_10 : decode cX12_parseScript 10 = .ok (.invokevirtual 265, 3) := by decide +kernel
theorem dX12_parseScript_13 : decode cX12_parseScript 13 = .ok (.istore_n 2, 1) := by decide +kernel
theorem dX12_parseScript_14 : decode cX12_parseScript 14 = .ok (.iload_n 2, 1) := by decide +kernel
theorem dX12_parseScript_15 : decode cX12_parseScript 15 = .ok (.iconst (-1), 1) := by decide +kernel
theorem dX12_parseScript_16 : decode cX12_parseScript 16 = .ok (.if_icmp .eq 25, 3) := by decide +kernel
theorem dX12_parseScript_19 : decode cX12_parseScript 19 = .ok (.iload_n 1, 1) := by decide +kernel
theorem dX12_parseScript_20 : decode cX12_parseScript 20 = .ok (.bipush 30, 2) := by decide +kernel
theorem dX12_parseScript_22 : decode cX12_parseScript 22 = .ok (.if_icmp .lt 11, 3) := by decide +kernel
theorem dX12_parseScript_25 : decode cX12_parseScript 25 = .ok (.aload_n 0, 1) := by decide +kernel
theorem dX12_parseScript_26 : decode cX12_parseScript 26 = .ok (.iconst 5, 1) := by decide +kernel
theorem dX12_parseScript_27 : decode cX12_parseScript 27 = .ok (.invokevirtual 187, 3) := by decide +kernel
theorem dX12_parseScript_30 : decode cX12_parseScript 30 = .ok (.ifCond .eq 7, 3) := by decide +kernel
theorem dX12_parseScript_33 : decode cX12_parseScript 33 = .ok (.iconst 1, 1) := by decide +kernel
theorem dX12_parseScript_34 : decode cX12_parseScript 34 = .ok (.goto 12, 3) := by decide +kernel
theorem dX12_parseScript_37 : decode cX12_parseScript 37 = .ok (.iconst 0, 1) := by decide +kernel
theorem dX12_parseScript_38 : decode cX12_parseScript 38 = .ok (.goto 8, 3) := by decide +kernel
theorem dX12_parseScript_41 : decode cX12_parseScript 41 = .ok (.aload_n 0, 1) := by decide +kernel
theorem dX12_parseScript_42 : decode cX12_parseScript 42 = .ok (.iconst 1, 1) := by decide +kernel
theorem dX12_parseScript_43 : decode cX12_parseScript 43 = .ok (.invokevirtual 187, 3) := by decide +kernel
theorem dX12_parseScript_46 : decode cX12_parseScript 46 = .ok (.istore_n 3, 1) := by decide +kernel
theorem dX12_parseScript_47 : decode cX12_parseScript 47 = .ok (.iload_n 3, 1) := by decide +kernel
theorem dX12_parseScript_48 : decode cX12_parseScript 48 = .ok (.ifCond .ne 5, 3) := by decide +kernel
theorem dX12_parseScript_51 : decode cX12_parseScript 51 = .ok (.iconst (-1), 1) := by decide +kernel
theorem dX12_parseScript_52 : decode cX12_parseScript 52 = .ok (.ireturn, 1) := by decide +kernel
theorem dX12_parseScript_53 : decode cX12_parseScript 53 = .ok (.aload_n 0, 1) := by decide +kernel
theorem dX12_parseScript_54 : decode cX12_parseScript 54 = .ok (.invokevirtual 180, 3) := by decide +kernel
theorem dX12_parseScript_57 : decode cX12_parseScript 57 = .ok (.aload_n 0, 1) := by decide +kernel
theorem dX12_parseScript_58 : decode cX12_parseScript 58 = .ok (.getfield 66, 3) := by decide +kernel
theorem dX12_parseScript_61 : decode cX12_parseScript 61 = .ok (.iload_n 1, 1) := by decide +kernel
theorem dX12_parseScript_62 : decode cX12_parseScript 62 = .ok (.iconst 3, 1) := by decide +kernel
theorem dX12_parseScript_63 : decode cX12_parseScript 63 = .ok (.imul, 1) := by decide +kernel
theorem dX12_parseScript_64 : decode cX12_parseScript 64 = .ok (.iload_n 2, 1) := by decide +kernel
theorem dX12_parseScript_65 : decode cX12_parseScript 65 = .ok (.iastore, 1) := by decide +kernel
theorem dX12_parseScript_66 : decode cX12_parseScript 66 = .ok (.aload_n 0, 1) := by decide +kernel
theorem dX12_parseScript_67 : decode cX12_parseScript 67 = .ok (.iload_n 2, 1) := by decide +kernel
theorem dX12_parseScript_68 : decode cX12_parseScript 68 = .ok (.iload_n 1, 1) := by decide +kernel
theorem dX12_parseScript_69 : decode cX12_parseScript 69 = .ok (.iconst 3, 1) := by decide +kernel
theorem dX12_parseScript_70 : decode cX12_parseScript 70 = .ok (.imul, 1) := by decide +kernel
theorem dX12_parseScript_71 : decode cX12_parseScript 71 = .ok (.iconst 1, 1) := by decide +kernel
theorem dX12_parseScript_72 : decode cX12_parseScript 72 = .ok (.iadd, 1) := by decide +kernel
theorem dX12_parseScript_73 : decode cX12_parseScript 73 = .ok (.invokevirtual 268, 3) := by decide +kernel
theorem dX12_parseScript_76 : decode cX12_parseScript 76 = .ok (.ifCond .eq 10, 3) := by decide +kernel
theorem dX12_parseScript_79 : decode cX12_parseScript 79 = .ok (.aload_n 0, 1) := by decide +kernel
theorem dX12_parseScript_80 : decode cX12_parseScript 80 = .ok (.invokevirtual 205, 3) := by decide +kernel
theorem dX12_parseScript_83 : decode cX12_parseScript 83 = .ok (.ifCond .ne 5, 3) := by decide +kernel
theorem dX12_parseScript_86 : decode cX12_parseScript 86 = .ok (.iconst (-1), 1) := by decide +kernel
theorem dX12_parseScript_87 : decode cX12_parseScript 87 = .ok (.ireturn, 1) := by decide +kernel
theorem dX12_parseScript_88 : decode cX12_parseScript 88 = .ok (.iinc 1 1, 3) := by decide +kernel
theorem dX12_parseScript_91 : decode cX12_parseScript 91 = .ok (.goto (-89), 3) := by decide +kernel
theorem dX12_parseScript_94 : decode cX12_parseScript 94 = .ok (.iload_n 1, 1) := by decide +kernel
theorem dX12_parseScript_95 : decode cX12_parseScript 95 = .ok (.ireturn, 1) := by decide +kernel
set_option maxRecDepth 20000 in
theorem ggX12_canDo_X12_in : GoodIn wsX12_canDo wsX12_in := goodIn_r _ [5] rfl (by decide +kernel)
set_option maxRecDepth 20000 in
theorem gX12_canDo_X12_in : GoodIn wsX12_canDo (va_wsS RX12 87 yX12_in wsX12_in) := goodIn_app (goodIn_of _ (by decide +kernel)) ggX12_canDo_X12_in
set_option maxRecDepth 20000 in
theorem ggX12_canDo_X12_of : GoodIn wsX12_canDo wsX12_of := goodIn_r _ [9, 1, 42, 43, 44, 45, 46, 47, 48, 49, 50, 51, 52, 53, 54, 55, 56, 57, 58, 59, 60] rfl (by decide +kernel)
set_option maxRecDepth 20000 in
theorem gX12_canDo_X12_of : GoodIn wsX12_canDo (wsV RX12 95 RX12 yX12_of wsX12_of) := goodIn_app (goodIn_of _ (by decide +kernel)) ggX12_canDo_X12_of
set_option maxRecDepth 20000 in
theorem ggX12_canDo_X12_canRedo : GoodIn wsX12_canDo wsX12_canRedo := goodIn_r _ [13, 1, 6, 7, 8, 4, 9, 14, 15, 16, 17, 18, 19, 20, 21, 22, 23, 24, 25, 42, 43, 44, 45, 46, 47, 48, 49, 50, 51, 52, 53, 54, 55, 56, 57, 58, 59, 60] rfl (by decide +kernel)
set_option maxRecDepth 20000 in
theorem gX12_canDo_X12_canRedo : GoodIn wsX12_canDo (wsV RX12 271 RX12 yX12_canRedo wsX12_canRedo) := goodIn_app (goodIn_of _ (by decide +kernel)) ggX12_canDo_X12_canRedo
set_option maxRecDepth 20000 in
theorem ggX12_canDo_X12_servingReason : GoodIn wsX12_canDo wsX12_servingReason := goodIn_r _ [29, 1, 30, 31, 32, 4, 33, 6, 7, 8, 9, 34, 35, 36, 37, 38, 39, 40, 41, 42, 43, 44, 45, 46, 47, 48, 49, 50, 51, 52, 53, 54, 55, 56, 57, 58, 59, 60] rfl (by decide +kernel)
set_option maxRecDepth 20000 in
theorem gX12_canDo_X12_servingReason : GoodIn wsX12_canDo (wsV RX12 274 RX12 yX12_servingReason wsX12_servingReason) := goodIn_app (goodIn_of _ (by decide +kernel)) ggX12_canDo_X12_servingReason
theorem dX12_canDo_0 : decode cX12_canDo 0 = .ok (.iload_n 1, 1) := by decide +kernel
theorem dX12_canDo_1 : decode cX12_canDo 1 = .ok (.tableswitch 138 0 6 #[43, 74, 74, 100, 117, 123, 130], 43) := by decide +kernel
theorem dX12_canDo_44 : decode cX12_canDo 44 = .ok (.iload_n 2, 1) := by decide +kernel
theorem dX12_canDo_45 : decode cX12_canDo 45 = .ok (.iconst 1, 1) := by decide +kernel
theorem dX12_canDo_46 : decode cX12_canDo 46 = .ok (.sipush 200, 3) := by decide +kernel
theorem dX12_canDo_49 : decode cX12_canDo 49 = .ok (.invokestatic 87, 3) := by decide +kernel
theorem dX12_canDo_52 : decode cX12_canDo 52 = .ok (.ifCond .eq 21, 3) := by decide +kernel
theorem dX12_canDo_55 : decode cX12_canDo 55 = .ok (.aload_n 0, 1) := by decide +kernel
theorem dX12_canDo_56 : decode cX12_canDo 56 = .ok (.getfield 13, 3) := by decide +kernel
theorem dX12_canDo_59 : decode cX12_canDo 59 = .ok (.iconst 4, 1) := by decide +kernel
theorem dX12_canDo_60 : decode cX12_canDo 60 = .ok (.iaload, 1) := by decide +kernel
theorem dX12_canDo_61 : decode cX12_canDo 61 = .ok (.iload_n 2, 1) := by decide +kernel
theorem dX12_canDo_62 : decode cX12_canDo 62 = .ok (.iadd, 1) := by decide +kernel
theorem dX12_canDo_63 : decode cX12_canDo 63 = .ok (.sipush 9999, 3) := by decide +kernel
theorem dX12_canDo_66 : decode cX12_canDo 66 = .ok (.if_icmp .gt 7, 3) := by decide +kernel
theorem dX12_canDo_69 : decode cX12_canDo 69 = .ok (.iconst 1, 1) := by decide +kernel
theorem dX12_canDo_70 : decode cX12_canDo 70 = .ok (.goto 4, 3) := by decide +kernel
theorem dX12_canDo_73 : decode cX12_canDo 73 = .ok (.iconst 0, 1) := by decide +kernel
theorem dX12_canDo_74 : decode cX12_canDo 74 = .ok (.ireturn, 1) := by decide +kernel
theorem dX12_canDo_75 : decode cX12_canDo 75 = .ok (.iload_n 2, 1) := by decide +kernel
theorem dX12_canDo_76 : decode cX12_canDo 76 = .ok (.iconst 1, 1) := by decide +kernel
theorem dX12_canDo_77 : decode cX12_canDo 77 = .ok (.bipush 9, 2) := by decide +kernel
theorem dX12_canDo_79 : decode cX12_canDo 79 = .ok (.invokestatic 87, 3) := by decide +kernel
theorem dX12_canDo_82 : decode cX12_canDo 82 = .ok (.ifCond .eq 17, 3) := by decide +kernel
theorem dX12_canDo_85 : decode cX12_canDo 85 = .ok (.aload_n 0, 1) := by decide +kernel
theorem dX12_canDo_86 : decode cX12_canDo 86 = .ok (.getfield 13, 3) := by decide +kernel
theorem dX12_canDo_89 : decode cX12_canDo 89 = .ok (.bipush 6, 2) := by decide +kernel
theorem dX12_canDo_91 : decode cX12_canDo 91 = .ok (.iaload, 1) := by decide +kernel
theorem dX12_canDo_92 : decode cX12_canDo 92 = .ok (.ifCond .ne 7, 3) := by decide +kernel
theorem dX12_canDo_95 : decode cX12_canDo 95 = .ok (.iconst 1, 1) := by decide +kernel
theorem dX12_canDo_96 : decode cX12_canDo 96 = .ok (.goto 4, 3) := by decide +kernel
theorem dX12_canDo_99 : decode cX12_canDo 99 = .ok (.iconst 0, 1) := by decide +kernel
theorem dX12_canDo_100 : decode cX12_canDo 100 = .ok (.ireturn, 1) := by decide +kernel
theorem dX12_canDo_101 : decode cX12_canDo 101 = .ok (.aload_n 0, 1) := by decide +kernel
theorem dX12_canDo_102 : decode cX12_canDo 102 = .ok (.iload_n 2, 1) := by decide +kernel
theorem dX12_canDo_103 : decode cX12_canDo 103 = .ok (.bipush 17, 2) := by decide +kernel
theorem dX12_canDo_105 : decode cX12_canDo 105 = .ok (.invokevirtual 95, 3) := by decide +kernel
theorem dX12_canDo_108 : decode cX12_canDo 108 = .ok (.iconst 1, 1) := by decide +kernel
theorem dX12_canDo_109 : decode cX12_canDo 109 = .ok (.if_icmp .ne 7, 3) := by decide +kernel
theorem dX12_canDo_112 : decode cX12_canDo 112 = .ok (.iconst 1, 1) := by decide +kernel
theorem dX12_canDo_113 : decode cX12_canDo 113 = .ok (.goto 4, 3) := by decide +kernel
theorem dX12_canDo_116 : decode cX12_canDo 116 = .ok (.iconst 0, 1) := by decide +kernel
theorem dX12_canDo_117 : decode cX12_canDo 117 = .ok (.ireturn, 1) := by decide +kernel
theorem dX12_canDo_118 : decode cX12_canDo 118 = .ok (.aload_n 0, 1) := by decide +kernel
theorem dX12_canDo_119 : decode cX12_canDo 119 = .ok (.iload_n 2, 1) := by decide +kernel
theorem dX12_canDo_120 : decode cX12_canDo 120 = .ok (.invokevirtual 271, 3) := by decide +kernel
theorem dX12_canDo_123 : decode cX12_canDo 123 = .ok (.ireturn, 1) := by decide +kernel
theorem dX12_canDo_124 : decode cX12_canDo 124 = .ok (.iload_n 2, 1) := by decide +kernel
theorem dX12_canDo_125 : decode cX12_canDo 125 = .ok (.iconst 1, 1) := by decide +kernel
theorem dX12_canDo_126 : decode cX12_canDo 126 = .ok (.iconst 4, 1) := by decide +kernel
theorem dX12_canDo_127 : decode cX12_canDo 127 = .ok (.invokestatic 87, 3) := by decide +kernel
theorem dX12_canDo_130 : decode cX12_canDo 130 = .ok (.ireturn, 1) := by decide +kernel
theorem dX12_canDo_131 : decode cX12_canDo 131 = .ok (.iload_n 3, 1) := by decide +kernel
theorem dX12_canDo_132 : decode cX12_canDo 132 = .ok (.iconst 1, 1) := by decide +kernel
theorem dX12_canDo_133 : decode cX12_canDo 133 = .ok (.bipush 60, 2) := by decide +kernel
theorem dX12_canDo_135 : decode cX12_canDo 135 = .ok (.invokestatic 87, 3) := by decide +kernel
theorem dX12_canDo_138 : decode cX12_canDo 138 = .ok (.ireturn, 1) := by decide +kernel
theorem dX12_canDo_139 : decode cX12_canDo 139 = .ok (.aload_n 0, 1) := by decide +kernel
theorem dX12_canDo_140 : decode cX12_canDo 140 = .ok (.invokevirtual 274, 3) := by decide +kernel
theorem dX12_canDo_143 : decode cX12_canDo 143 = .ok (.ifCond .ne 7, 3) := by decide +kernel
theorem dX12_canDo_146 : decode cX12_canDo 146 = .ok (.iconst 1, 1) := by decide +kernel
theorem dX12_canDo_147 : decode cX12_canDo 147 = .ok (.goto 4, 3) := by decide +kernel
theorem dX12_canDo_150 : decode cX12_canDo 150 = .ok (.iconst 0, 1) := by decide +kernel
theorem dX12_canDo_151 : decode cX12_canDo 151 = .ok (.ireturn, 1) := by decide +kernel
set_option maxRecDepth 20000 in
theorem ggX12_doIt_X12_passMinutes : GoodIn wsX12_doIt wsX12_passMinutes := goodIn_r _ [6, 1, 7, 8, 9, 5, 10, 11, 12, 13, 14, 15, 16, 17, 18, 19, 20, 21, 22, 23, 24, 25, 26, 27, 28, 29, 30, 31, 32, 33, 34, 35, 36, 37, 38, 39, 40, 41, 42, 43, 44, 45, 46, 47, 48, 49, 50, 51, 52, 53, 54, 55, 56, 57, 58, 59, 60, 61, 62, 63, 64, 65, 66, 67, 68, 69, 70, 71, 72, 73, 74, 75, 76, 77, 78, 79, 80, 81, 82, 83, 84, 93, 94, 95, 96, 97, 98, 99, 100, 101, 102, 103, 104, 105, 106, 107, 108, 109, 110, 111] rfl (by decide +kernel)
set_option maxRecDepth 20000 in
theorem gX12_doIt_X12_passMinutes : GoodIn wsX12_doIt (wsV RX12 277 RX12 yX12_passMinutes wsX12_passMinutes) := goodIn_app (goodIn_of _ (by decide +kernel)) ggX12_doIt_X12_passMinutes
set_option maxRecDepth 20000 in
theorem ggX12_doIt_X12_stopIt : GoodIn wsX12_doIt wsX12_stopIt := goodIn_r _ [88, 1, 20, 21, 22, 5, 23, 16, 17, 18, 19, 93, 94, 95, 96, 97, 98, 99, 100, 101, 102, 103, 104, 105, 106, 107, 108, 109, 110, 111] rfl (by decide +kernel)
set_option maxRecDepth 20000 in
theorem gX12_doIt_X12_stopIt : GoodIn wsX12_doIt (wsV RX12 280 RX12 yX12_stopIt wsX12_stopIt) := goodIn_app (goodIn_of _ (by decide +kernel)) ggX12_doIt_X12_stopIt
set_option maxRecDepth 20000 in
theorem ggX12_doIt_X12_redoIt : GoodIn wsX12_doIt wsX12_redoIt := goodIn_r _ [92, 20, 21, 22, 5, 23, 1, 16, 17, 18, 19, 93, 94, 95, 96, 97, 98, 99, 100, 101, 102, 103, 104, 105, 106, 107, 108, 109, 110, 111] rfl (by decide +kernel)
set_option maxRecDepth 20000 in
theorem gX12_doIt_X12_redoIt : GoodIn wsX12_doIt (wsV RX12 283 RX12 yX12_redoIt wsX12_redoIt) := goodIn_app (goodIn_of _ (by decide +kernel)) ggX12_doIt_X12_redoIt
set_option maxRecDepth 20000 in
theorem ggX12_doIt_X12_set : GoodIn wsX12_doIt wsX12_set := goodIn_r _ [19, 1, 93, 94, 95, 96, 97, 98, 99, 100, 101, 102, 103, 104, 105, 106, 107, 108, 109, 110, 111] rfl (by decide +kernel)
set_option maxRecDepth 20000 in
theorem gX12_doIt_X12_set : GoodIn wsX12_doIt (wsV RX12 126 RX12 yX12_set wsX12_set) := goodIn_app (goodIn_of _ (by decide +kernel)) ggX12_doIt_X12_set
theorem dX12_doIt_0 : decode cX12_doIt 0 = .ok (.iload_n 1, 1) := by decide +kernel
theorem dX12_doIt_1 : decode cX12_doIt 1 = .ok (.tableswitch 117 0 6 #[43, 52, 65, 78, 87, 96, 106], 43) := by decide +kernel
theorem dX12_doIt_44 : decode cX12_doIt 44 = .ok (.aload_n 0, 1) := by decide +kernel
theorem dX12_doIt_45 : decode cX12_doIt 45 = .ok (.iload_n 2, 1) := by decide +kernel
theorem dX12_doIt_46 : decode cX12_doIt 46 = .ok (.invokevirtual 277, 3) := by decide +kernel
theorem dX12_doIt_49 : decode cX12_doIt 49 = .ok (.pop, 1) := by decide +kernel
theorem dX12_doIt_50 : decode cX12_doIt 50 = .ok (.goto 76, 3) := by decide +kernel
theorem dX12_doIt_53 : decode cX12_doIt 53 = .ok (.aload_n 0, 1) := by decide +kernel
theorem dX12_doIt_54 : decode cX12_doIt 54 = .ok (.getfield 13, 3) := by decide +kernel
theorem dX12_doIt_57 : decode cX12_doIt 57 = .ok (.iconst 5, 1) := by decide +kernel
theorem dX12_doIt_58 : decode cX12_doIt 58 = .ok (.dup2, 1) := by decide +kernel
theorem dX12_doIt_59 : decode cX12_doIt 59 = .ok (.iaload, 1) := by decide +kernel
theorem dX12_doIt_60 : decode cX12_doIt 60 = .ok (.iload_n 2, 1) := by decide +kernel
theorem dX12_doIt_61 : decode cX12_doIt 61 = .ok (.iadd, 1) := by decide +kernel
theorem dX12_doIt_62 : decode cX12_doIt 62 = .ok (.iastore, 1) := by decide +kernel
theorem dX12_doIt_63 : decode cX12_doIt 63 = .ok (.goto 63, 3) := by decide +kernel
theorem dX12_doIt_66 : decode cX12_doIt 66 = .ok (.aload_n 0, 1) := by decide +kernel
theorem dX12_doIt_67 : decode cX12_doIt 67 = .ok (.getfield 13, 3) := by decide +kernel
theorem dX12_doIt_70 : decode cX12_doIt 70 = .ok (.iconst 5, 1) := by decide +kernel
theorem dX12_doIt_71 : decode cX12_doIt 71 = .ok (.dup2, 1) := by decide +kernel
theorem dX12_doIt_72 : decode cX12_doIt 72 = .ok (.iaload, 1) := by decide +kernel
theorem dX12_doIt_73 : decode cX12_doIt 73 = .ok (.iload_n 2, 1) := by decide +kernel
theorem dX12_doIt_74 : decode cX12_doIt 74 = .ok (.isub, 1) := by decide +kernel
theorem dX12_doIt_75 : decode cX12_doIt 75 = .ok (.iastore, 1) := by decide +kernel
theorem dX12_doIt_76 : decode cX12_doIt 76 = .ok (.goto 50, 3) := by decide +kernel
theorem dX12_doIt_79 : decode cX12_doIt 79 = .ok (.aload_n 0, 1) := by decide +kernel
theorem dX12_doIt_80 : decode cX12_doIt 80 = .ok (.iload_n 2, 1) := by decide +kernel
theorem dX12_doIt_81 : decode cX12_doIt 81 = .ok (.invokevirtual 280, 3) := by decide +kernel
theorem dX12_doIt_84 : decode cX12_doIt 84 = .ok (.pop, 1) := by decide +kernel
theorem dX12_doIt_85 : decode cX12_doIt 85 = .ok (.goto 41, 3) := by decide +kernel
theorem dX12_doIt_88 : decode cX12_doIt 88 = .ok (.aload_n 0, 1) := by decide +kernel
theorem dX12_doIt_89 : decode cX12_doIt 89 = .ok (.iload_n 2, 1) := by decide +kernel
theorem dX12_doIt_90 : decode cX12_doIt 90 = .ok (.invokevirtual 283, 3) := by decide +kernel
theorem dX12_doIt_93 : decode cX12_doIt 93 = .ok (.pop, 1) := by decide +kernel
theorem dX12_doIt_94 : decode cX12_doIt 94 = .ok (.goto 32, 3) := by decide +kernel
theorem dX12_doIt_97 : decode cX12_doIt 97 = .ok (.aload_n 0, 1) := by decide +kernel
theorem dX12_doIt_98 : decode cX12_doIt 98 = .ok (.getfield 13, 3) := by decide +kernel
theorem dX12_doIt_101 : decode cX12_doIt 101 = .ok (.iconst 0, 1) := by decide +kernel
theorem dX12_doIt_102 : decode cX12_doIt 102 = .ok (.iload_n 2, 1) := by decide +kernel
theorem dX12_doIt_103 : decode cX12_doIt 103 = .ok (.iastore, 1) := by decide +kernel
theorem dX12_doIt_104 : decode cX12_doIt 104 = .ok (.goto 22, 3) := by decide +kernel
theorem dX12_doIt_107 : decode cX12_doIt 107 = .ok (.aload_n 0, 1) := by decide +kernel
theorem dX12_doIt_108 : decode cX12_doIt 108 = .ok (.iload_n 2, 1) := by decide +kernel
theorem dX12_doIt_109 : decode cX12_doIt 109 = .ok (.bipush 7, 2) := by decide +kernel
theorem dX12_doIt_111 : decode cX12_doIt 111 = .ok (.iload_n 3, 1) := by decide +kernel
theorem dX12_doIt_112 : decode cX12_doIt 112 = .ok (.invokevirtual 126, 3) := by decide +kernel
theorem dX12_doIt_115 : decode cX12_doIt 115 = .ok (.goto 11, 3) := by decide +kernel
theorem dX12_doIt_118 : decode cX12_doIt 118 = .ok (.aload_n 0, 1) := by decide +kernel
theorem dX12_doIt_119 : decode cX12_doIt 119 = .ok (.getfield 13, 3) := by decide +kernel
theorem dX12_doIt_122 : decode cX12_doIt 122 = .ok (.bipush 6, 2) := by decide +kernel
theorem dX12_doIt_124 : decode cX12_doIt 124 = .ok (.iconst 1, 1) := by decide +kernel
theorem dX12_doIt_125 : decode cX12_doIt 125 = .ok (.iastore, 1) := by decide +kernel
theorem dX12_doIt_126 : decode cX12_doIt 126 = .ok (.return_, 1) := by decide +kernel
set_option maxRecDepth 20000 in
theorem ggX12_runScript_X12_begin : GoodIn wsX12_runScript wsX12_begin := goodIn_r _ [7, 8, 9, 10, 11, 12, 13, 6, 14, 1, 15, 16, 17, 18, 19, 20, 21, 22, 23, 24, 257, 258, 259, 260, 261, 262, 263, 264, 265, 266, 267, 268, 269, 270, 271, 272, 273, 274, 275] rfl (by decide +kernel)
set_option maxRecDepth 20000 in
theorem gX12_runScript_X12_begin : GoodIn wsX12_runScript (wsV RX12 80 RX12 yX12_begin wsX12_begin) := goodIn_app (goodIn_of _ (by decide +kernel)) ggX12_runScript_X12_begin
set_option maxRecDepth 20000 in
theorem ggX12_runScript_X12_parseScript : GoodIn wsX12_runScript wsX12_parseScript := goodIn_r _ [28, 17, 2, 29, 30, 31, 6, 32, 33, 34, 35, 36, 37, 38, 39, 10, 16, 15, 40, 41, 42, 43, 44, 45, 46, 47, 48, 49, 50, 51, 52, 53, 54, 55, 56, 57, 58, 59, 60, 61, 62, 63, 64, 65, 66, 67, 68, 69, 70, 71, 72, 73, 74, 75, 76, 77, 78, 79, 80, 81, 82, 83, 84, 85, 86, 87, 88, 89, 90, 91, 92, 8, 9, 11, 12, 13, 14, 1, 18, 19, 20, 21, 22, 23, 24, 93, 94, 95, 96, 97, 98, 99, 100, 101, 102, 103, 104, 105, 106, 107, 108, 109, 110, 111, 112, 113, 114, 115, 116, 117, 118, 119, 120, 121, 257, 258, 259, 260, 261, 262, 263, 264, 265, 266, 267, 268, 269, 270, 271, 272, 273, 274, 275] rfl (by decide +kernel)
set_option maxRecDepth 20000 in
theorem gX12_runScript_X12_parseScript : GoodIn wsX12_runScript (wsV RX12 286 RX12 yX12_parseScript wsX12_parseScript) := goodIn_app (goodIn_of _ (by decide +kernel)) ggX12_runScript_X12_parseScript
set_option maxRecDepth 20000 in
theorem ggX12_runScript_X12_fails : GoodIn wsX12_runScript wsX12_fails := goodIn_r _ [125, 126, 257, 258, 259, 260, 261, 262, 263, 264, 265, 266, 267, 268, 269, 270, 271, 272, 273, 274, 275] rfl (by decide +kernel)
set_option maxRecDepth 20000 in
theorem gX12_runScript_X12_fails : GoodIn wsX12_runScript (wsV RX12 167 RX12 yX12_fails wsX12_fails) := goodIn_app (goodIn_of _ (by decide +kernel)) ggX12_runScript_X12_fails
set_option maxRecDepth 20000 in
theorem ggX12_runScript_X12_remember : GoodIn wsX12_runScript wsX12_remember := goodIn_r _ [130, 131, 132, 133, 134, 6, 135, 109, 257, 258, 259, 260, 261, 262, 263, 264, 265, 266, 267, 268, 269, 270, 271, 272, 273, 274, 275] rfl (by decide +kernel)
set_option maxRecDepth 20000 in
theorem gX12_runScript_X12_remember : GoodIn wsX12_runScript (wsV RX12 289 RX12 yX12_remember wsX12_remember) := goodIn_app (goodIn_of _ (by decide +kernel)) ggX12_runScript_X12_remember
set_option maxRecDepth 20000 in
theorem ggX12_runScript_X12_canDo : GoodIn wsX12_runScript wsX12_canDo := goodIn_r _ [139, 109, 140, 141, 6, 142, 143, 144, 145, 146, 147, 148, 149, 150, 151, 152, 153, 154, 155, 156, 157, 158, 159, 160, 161, 162, 163, 164, 165, 166, 167, 168, 169, 170, 171, 172, 173, 174, 175, 176, 177, 178, 257, 258, 259, 260, 261, 262, 263, 264, 265, 266, 267, 268, 269, 270, 271, 272, 273, 274, 275] rfl (by decide +kernel)
set_option maxRecDepth 20000 in
theorem gX12_runScript_X12_canDo : GoodIn wsX12_runScript (wsV RX12 292 RX12 yX12_canDo wsX12_canDo) := goodIn_app (goodIn_of _ (by decide +kernel)) ggX12_runScript_X12_canDo
set_option maxRecDepth 20000 in
theorem ggX12_runScript_X12_doIt : GoodIn wsX12_runScript wsX12_doIt := goodIn_r _ [182, 109, 183, 184, 185, 6, 186, 187, 188, 189, 190, 191, 192, 193, 194, 195, 196, 197, 198, 199, 143, 144, 145, 146, 200, 201, 202, 203, 151, 152, 153, 154, 155, 156, 157, 158, 159, 160, 161, 162, 204, 205, 206, 207, 208, 209, 210, 211, 212, 213, 214, 215, 216, 217, 218, 219, 220, 221, 222, 223, 224, 225, 226, 227, 228, 229, 230, 231, 232, 233, 234, 235, 236, 237, 238, 239, 240, 241, 242, 243, 244, 245, 246, 247, 248, 249, 250, 251, 252, 253, 254, 255, 256, 257, 258, 259, 260, 261, 262, 263, 264, 265, 266, 267, 268, 269, 270, 271, 272, 273, 274, 275] rfl (by decide +kernel)
set_option maxRecDepth 20000 in
theorem gX12_runScript_X12_doIt : GoodIn wsX12_runScript (wsV RX12 295 RX12 yX12_doIt wsX12_doIt) := goodIn_app (goodIn_of _ (by decide +kernel)) ggX12_runScript_X12_doIt
theorem dX12_runScript_0 : decode cX12_runScript 0 = .ok (.aload_n 0, 1) := by decide +kernel
theorem dX12_runScript_1 : decode cX12_runScript 1 = .ok (.invokevirtual 80, 3) := by decide +kernel
theorem dX12_runScript_4 : decode cX12_runScript 4 = .ok (.aload_n 0, 1) := by decide +kernel
theorem dX12_runScript_5 : decode cX12_runScript 5 = .ok (.invokevirtual 286, 3) := by decide +kernel
theorem dX12_runScript_8 : decode cX12_runScript 8 = .ok (.istore_n 1, 1) := by decide +kernel
theorem dX12_runScript_9 : decode cX12_runScript 9 = .ok (.aload_n 0, 1) := by decide +kernel
theorem dX12_runScript_10 : decode cX12_runScript 10 = .ok (.iconst 0, 1) := by decide +kernel
theorem dX12_runScript_11 : decode cX12_runScript 11 = .ok (.putfield 27, 3) := by decide +kernel
theorem dX12_runScript_14 : decode cX12_runScript 14 = .ok (.aload_n 0, 1) := by decide +kernel
theorem dX12_runScript_15 : decode cX12_runScript 15 = .ok (.iload_n 1, 1) := by decide +kernel
theorem dX12_runScript_16 : decode cX12_runScript 16 = .ok (.iconst (-1), 1) := by decide +kernel
theorem dX12_runScript_17 : decode cX12_runScript 17 = .ok (.if_icmp .ne 7, 3) := by decide +kernel
theorem dX12_runScript_20 : decode cX12_runScript 20 = .ok (.iconst 1, 1) := by decide +kernel
theorem dX12_runScript_21 : decode cX12_runScript 21 = .ok (.goto 4, 3) := by decide +kernel
theorem dX12_runScript_24 : decode cX12_runScript 24 = .ok (.iconst 0, 1) := by decide +kernel
theorem dX12_runScript_25 : decode cX12_runScript 25 = .ok (.iconst 0, 1) := by decide +kernel
theorem dX12_runScript_26 : decode cX12_runScript 26 = .ok (.iconst 0, 1) := by decide +kernel
theorem dX12_runScript_27 : decode cX12_runScript 27 = .ok (.invokevirtual 167, 3) := by decide +kernel
theorem dX12_runScript_30 : decode cX12_runScript 30 = .ok (.ifCond .eq 5, 3) := by decide +kernel
theorem dX12_runScript_33 : decode cX12_runScript 33 = .ok (.iconst 0, 1) := by decide +kernel
theorem dX12_runScript_34 : decode cX12_runScript 34 = .ok (.ireturn, 1) := by decide +kernel
theorem dX12_runScript_35 : decode cX12_runScript 35 = .ok (.aload_n 0, 1) := by decide +kernel
theorem dX12_runScript_36 : decode cX12_runScript 36 = .ok (.iconst 0, 1) := by decide +kernel
theorem dX12_runScript_37 : decode cX12_runScript 37 = .ok (.invokevirtual 289, 3) := by decide +kernel
theorem dX12_runScript_40 : decode cX12_runScript 40 = .ok (.iconst 0, 1) := by decide +kernel
theorem dX12_runScript_41 : decode cX12_runScript 41 = .ok (.istore_n 2, 1) := by decide +kernel
theorem dX12_runScript_42 : decode cX12_runScript 42 = .ok (.iload_n 2, 1) := by decide +kernel
theorem dX12_runScript_43 : decode cX12_runScript 43 = .ok (.iload_n 1, 1) := by decide +kernel
theorem dX12_runScript_44 : decode cX12_runScript 44 = .ok (.if_icmp .ge 76, 3) := by decide +kernel
theorem dX12_runScript_47 : decode cX12_runScript 47 = .ok (.aload_n 0, 1) := by decide +kernel
theorem dX12_runScript_48 : decode cX12_runScript 48 = .ok (.aload_n 0, 1) := by decide +kernel
theorem dX12_runScript_49 : decode cX12_runScript 49 = .ok (.getfield 66, 3) := by decide +kernel
theorem dX12_runScript_52 : decode cX12_runScript 52 = .ok (.iload_n 2, 1) := by decide +kernel
theorem dX12_runScript_53 : decode cX12_runScript 53 = .ok (.iconst 3, 1) := by decide +kernel
theorem dX12_runScript_54 : decode cX12_runScript 54 = .ok (.imul, 1) := by decide +kernel
theorem dX12_runScript_55 : decode cX12_runScript 55 = .ok (.iaload, 1) := by decide +kernel
theorem dX12_runScript_56 : decode cX12_runScript 56 = .ok (.aload_n 0, 1) := by decide +kernel
theorem dX12_runScript_57 : decode cX12_runScript 57 = .ok (.getfield 66, 3) := by decide +kernel
theorem dX12_runScript_60 : decode cX12_runScript 60 = .ok (.iload_n 2, 1) := by decide +kernel
theorem dX12_runScript_61 : decode cX12_runScript 61 = .ok (.iconst 3, 1) := by decide +kernel
theorem dX12_runScript_62 : decode cX12_runScript 62 = .ok (.imul, 1) := by decide +kernel
theorem dX12_runScript_63 : decode cX12_runScript 63 = .ok (.iconst 1, 1) := by decide +kernel
theorem dX12_runScript_64 : decode cX12_runScript 64 = .ok (.iadd, 1) := by decide +kernel
theorem dX12_runScript_65 : decode cX12_runScript 65 = .ok (.iaload, 1) := by decide +kernel
theorem dX12_runScript_66 : decode cX12_runScript 66 = .ok (.aload_n 0, 1) := by decide +kernel
theorem dX12_runScript_67 : decode cX12_runScript 67 = .ok (.getfield 66, 3) := by decide +kernel
theorem dX12_runScript_70 : decode cX12_runScript 70 = .ok (.iload_n 2, 1) := by decide +kernel
theorem dX12_runScript_71 : decode cX12_runScript 71 = .ok (.iconst 3, 1) := by decide +kernel
theorem dX12_runScript_72 : decode cX12_runScript 72 = .ok (.imul, 1) := by decide +kernel
theorem dX12_runScript_73 : decode cX12_runScript 73 = .ok (.iconst 2, 1) := by decide +kernel
theorem dX12_runScript_74 : decode cX12_runScript 74 = .ok (.iadd, 1) := by decide +kernel
theorem dX12_runScript_75 : decode cX12_runScript 75 = .ok (.iaload, 1) := by decide +kernel
theorem dX12_runScript_76 : decode cX12_runScript 76 = .ok (.invokevirtual 292, 3) := by decide +kernel
theorem dX12_runScript_79 : decode cX12_runScript 79 = .ok (.ifCond .eq 41, 3) := by decide +kernel
theorem dX12_runScript_82 : decode cX12_runScript 82 = .ok (.aload_n 0, 1) := by decide +kernel
theorem dX12_runScript_83 : decode cX12_runScript 83 = .ok (.aload_n 0, 1) := by decide +kernel
theorem dX12_runScript_84 : decode cX12_runScript 84 = .ok (.getfield 66, 3) := by decide +kernel
theorem dX12_runScript_87 : decode cX12_runScript 87 = .ok (.iload_n 2, 1) := by decide +kernel
theorem dX12_runScript_88 : decode cX12_runScript 88 = .ok (.iconst 3, 1) := by decide +kernel
theorem dX12_runScript_89 : decode cX12_runScript 89 = .ok (.imul, 1) := by decide +kernel
theorem dX12_runScript_90 : decode cX12_runScript 90 = .ok (.iaload, 1) := by decide +kernel
theorem dX12_runScript_91 : decode cX12_runScript 91 = .ok (.aload_n 0, 1) := by decide +kernel
theorem dX12_runScript_92 : decode cX12_runScript 92 = .ok (.getfield 66, 3) := by decide +kernel
theorem dX12_runScript_95 : decode cX12_runScript 95 = .ok (.iload_n 2, 1) := by decide +kernel
theorem dX12_runScript_96 : decode cX12_runScript 96 = .ok (.iconst 3, 1) := by decide +kernel
theorem dX12_runScript_97 : decode cX12_runScript 97 = .ok (.imul, 1) := by decide +kernel
theorem dX12_runScript_98 : decode cX12_runScript 98 = .ok (.iconst 1, 1) := by decide +kernel
theorem dX12_runScript_99 : decode cX12_runScript 99 = .ok (.iadd, 1) := by decide +kernel
theorem dX12_runScript_100 : decode cX12_runScript 100 = .ok (.iaload, 1) := by decide +kernel
theorem dX12_runScript_101 : decode cX12_runScript 101 = .ok (.aload_n 0, 1) := by decide +kernel
theorem dX12_runScript_102 : decode cX12_runScript 102 = .ok (.getfield 66, 3) := by decide +kernel
theorem dX12_runScript_105 : decode cX12_runScript 105 = .ok (.iload_n 2, 1) := by decide +kernel
theorem dX12_runScript_106 : decode cX12_runScript 106 = .ok (.iconst 3, 1) := by decide +kernel
theorem dX12_runScript_107 : decode cX12_runScript 107 = .ok (.imul, 1) := by decide +kernel
theorem dX12_runScript_108 : decode cX12_runScript 108 = .ok (.iconst 2, 1) := by decide +kernel
theorem dX12_runScript_109 : decode cX12_runScript 109 = .ok (.iadd, 1) := by decide +kernel
theorem dX12_runScript_110 : decode cX12_runScript 110 = .ok (.iaload, 1) := by decide +kernel
theorem dX12_runScript_111 : decode cX12_runScript 111 = .ok (.invokevirtual 295, 3) := by decide +kernel
theorem dX12_runScript_114 : decode cX12_runScript 114 = .ok (.iinc 2 1, 3) := by decide +kernel
theorem dX12_runScript_117 : decode cX12_runScript 117 = .ok (.goto (-75), 3) := by decide +kernel
theorem dX12_runScript_120 : decode cX12_runScript 120 = .ok (.iload_n 2, 1) := by decide +kernel
theorem dX12_runScript_121 : decode cX12_runScript 121 = .ok (.ireturn, 1) := by decide +kernel
theorem dX12_errorCode_0 : decode cX12_errorCode 0 = .ok (.aload_n 0, 1) := by decide +kernel
theorem dX12_errorCode_1 : decode cX12_errorCode 1 = .ok (.iconst 0, 1) := by decide +kernel
theorem dX12_errorCode_2 : decode cX12_errorCode 2 = .ok (.putfield 1, 3) := by decide +kernel
theorem dX12_errorCode_5 : decode cX12_errorCode 5 = .ok (.aload_n 0, 1) := by decide +kernel
theorem dX12_errorCode_6 : decode cX12_errorCode 6 = .ok (.getfield 30, 3) := by decide +kernel
theorem dX12_errorCode_9 : decode cX12_errorCode 9 = .ok (.ireturn, 1) := by decide +kernel
theorem dX12_errorPosition_0 : decode cX12_errorPosition 0 = .ok (.aload_n 0, 1) := by decide +kernel
theorem dX12_errorPosition_1 : decode cX12_errorPosition 1 = .ok (.iconst 0, 1) := by decide +kernel
theorem dX12_errorPosition_2 : decode cX12_errorPosition 2 = .ok (.putfield 1, 3) := by decide +kernel
theorem dX12_errorPosition_5 : decode cX12_errorPosition 5 = .ok (.aload_n 0, 1) := by decide +kernel
theorem dX12_errorPosition_6 : decode cX12_errorPosition 6 = .ok (.getfield 33, 3) := by decide +kernel
theorem dX12_errorPosition_9 : decode cX12_errorPosition 9 = .ok (.ireturn, 1) := by decide +kernel
theorem dX12_plain_0 : decode cX12_plain 0 = .ok (.aload_n 0, 1) := by decide +kernel
theorem dX12_plain_1 : decode cX12_plain 1 = .ok (.iconst 0, 1) := by decide +kernel
theorem dX12_plain_2 : decode cX12_plain 2 = .ok (.putfield 1, 3) := by decide +kernel
theorem dX12_plain_5 : decode cX12_plain 5 = .ok (.iload_n 1, 1) := by decide +kernel
theorem dX12_plain_6 : decode cX12_plain 6 = .ok (.ireturn, 1) := by decide +kernel
set_option maxRecDepth 20000 in
theorem ggX12_stepCount_X12_plain : GoodIn wsX12_stepCount wsX12_plain := goodIn_r _ [6, 7, 8, 9, 10, 11, 12, 13, 14, 15, 16, 17, 18, 19, 20, 21, 22, 23, 24, 25, 26] rfl (by decide +kernel)
set_option maxRecDepth 20000 in
theorem gX12_stepCount_X12_plain : GoodIn wsX12_stepCount (wsV RX12 298 RX12 yX12_plain wsX12_plain) := goodIn_app (goodIn_of _ (by decide +kernel)) ggX12_stepCount_X12_plain
theorem dX12_stepCount_0 : decode cX12_stepCount 0 = .ok (.aload_n 0, 1) := by decide +kernel
theorem dX12_stepCount_1 : decode cX12_stepCount 1 = .ok (.aload_n 0, 1) := by decide +kernel
theorem dX12_stepCount_2 : decode cX12_stepCount 2 = .ok (.getfield 13, 3) := by decide +kernel
theorem dX12_stepCount_5 : decode cX12_stepCount 5 = .ok (.bipush 13, 2) := by decide +kernel
theorem dX12_stepCount_7 : decode cX12_stepCount 7 = .ok (.iaload, 1) := by decide +kernel
theorem dX12_stepCount_8 : decode cX12_stepCount 8 = .ok (.invokevirtual 298, 3) := by decide +kernel
theorem dX12_stepCount_11 : decode cX12_stepCount 11 = .ok (.ireturn, 1) := by decide +kernel
set_option maxRecDepth 20000 in
theorem ggX12_cooks_X12_plain : GoodIn wsX12_cooks wsX12_plain := goodIn_r _ [6, 7, 8, 9, 10, 11, 12, 13, 14, 15, 16, 17, 18, 19, 20, 21, 22, 23, 24, 25, 26] rfl (by decide +kernel)
set_option maxRecDepth 20000 in
theorem gX12_cooks_X12_plain : GoodIn wsX12_cooks (wsV RX12 298 RX12 yX12_plain wsX12_plain) := goodIn_app (goodIn_of _ (by decide +kernel)) ggX12_cooks_X12_plain
theorem dX12_cooks_0 : decode cX12_cooks 0 = .ok (.aload_n 0, 1) := by decide +kernel
theorem dX12_cooks_1 : decode cX12_cooks 1 = .ok (.aload_n 0, 1) := by decide +kernel
theorem dX12_cooks_2 : decode cX12_cooks 2 = .ok (.getfield 13, 3) := by decide +kernel
theorem dX12_cooks_5 : decode cX12_cooks 5 = .ok (.iconst 0, 1) := by decide +kernel
theorem dX12_cooks_6 : decode cX12_cooks 6 = .ok (.iaload, 1) := by decide +kernel
theorem dX12_cooks_7 : decode cX12_cooks 7 = .ok (.invokevirtual 298, 3) := by decide +kernel
theorem dX12_cooks_10 : decode cX12_cooks 10 = .ok (.ireturn, 1) := by decide +kernel
set_option maxRecDepth 20000 in
theorem ggX12_minute_X12_plain : GoodIn wsX12_minute wsX12_plain := goodIn_r _ [6, 7, 8, 9, 10, 11, 12, 13, 14, 15, 16, 17, 18, 19, 20, 21, 22, 23, 24, 25, 26] rfl (by decide +kernel)
set_option maxRecDepth 20000 in
theorem gX12_minute_X12_plain : GoodIn wsX12_minute (wsV RX12 298 RX12 yX12_plain wsX12_plain) := goodIn_app (goodIn_of _ (by decide +kernel)) ggX12_minute_X12_plain
theorem dX12_minute_0 : decode cX12_minute 0 = .ok (.aload_n 0, 1) := by decide +kernel
theorem dX12_minute_1 : decode cX12_minute 1 = .ok (.aload_n 0, 1) := by decide +kernel
theorem dX12_minute_2 : decode cX12_minute 2 = .ok (.getfield 13, 3) := by decide +kernel
theorem dX12_minute_5 : decode cX12_minute 5 = .ok (.iconst 4, 1) := by decide +kernel
theorem dX12_minute_6 : decode cX12_minute 6 = .ok (.iaload, 1) := by decide +kernel
theorem dX12_minute_7 : decode cX12_minute 7 = .ok (.invokevirtual 298, 3) := by decide +kernel
theorem dX12_minute_10 : decode cX12_minute 10 = .ok (.ireturn, 1) := by decide +kernel
set_option maxRecDepth 20000 in
theorem ggX12_salt_X12_plain : GoodIn wsX12_salt wsX12_plain := goodIn_r _ [6, 7, 8, 9, 10, 11, 12, 13, 14, 15, 16, 17, 18, 19, 20, 21, 22, 23, 24, 25, 26] rfl (by decide +kernel)
set_option maxRecDepth 20000 in
theorem gX12_salt_X12_plain : GoodIn wsX12_salt (wsV RX12 298 RX12 yX12_plain wsX12_plain) := goodIn_app (goodIn_of _ (by decide +kernel)) ggX12_salt_X12_plain
theorem dX12_salt_0 : decode cX12_salt 0 = .ok (.aload_n 0, 1) := by decide +kernel
theorem dX12_salt_1 : decode cX12_salt 1 = .ok (.aload_n 0, 1) := by decide +kernel
theorem dX12_salt_2 : decode cX12_salt 2 = .ok (.getfield 13, 3) := by decide +kernel
theorem dX12_salt_5 : decode cX12_salt 5 = .ok (.iconst 5, 1) := by decide +kernel
theorem dX12_salt_6 : decode cX12_salt 6 = .ok (.iaload, 1) := by decide +kernel
theorem dX12_salt_7 : decode cX12_salt 7 = .ok (.invokevirtual 298, 3) := by decide +kernel
theorem dX12_salt_10 : decode cX12_salt 10 = .ok (.ireturn, 1) := by decide +kernel
set_option maxRecDepth 20000 in
theorem ggX12_taste_X12_tasteNow : GoodIn wsX12_taste wsX12_tasteNow := goodIn_r _ [5, 6, 7, 8, 9, 4, 10, 16, 17, 18, 19, 20, 21, 22, 23, 24, 25, 26, 27, 28, 29, 30, 31, 32, 33, 34] rfl (by decide +kernel)
set_option maxRecDepth 20000 in
theorem gX12_taste_X12_tasteNow : GoodIn wsX12_taste (wsV RX12 164 RX12 yX12_tasteNow wsX12_tasteNow) := goodIn_app (goodIn_of _ (by decide +kernel)) ggX12_taste_X12_tasteNow
set_option maxRecDepth 20000 in
theorem ggX12_taste_X12_plain : GoodIn wsX12_taste wsX12_plain := goodIn_r _ [14, 15, 16, 17, 18, 19, 20, 21, 22, 23, 24, 25, 26, 27, 28, 29, 30, 31, 32, 33, 34] rfl (by decide +kernel)
set_option maxRecDepth 20000 in
theorem gX12_taste_X12_plain : GoodIn wsX12_taste (wsV RX12 298 RX12 yX12_plain wsX12_plain) := goodIn_app (goodIn_of _ (by decide +kernel)) ggX12_taste_X12_plain
theorem dX12_taste_0 : decode cX12_taste 0 = .ok (.aload_n 0, 1) := by decide +kernel
theorem dX12_taste_1 : decode cX12_taste 1 = .ok (.aload_n 0, 1) := by decide +kernel
theorem dX12_taste_2 : decode cX12_taste 2 = .ok (.invokevirtual 164, 3) := by decide +kernel
theorem dX12_taste_5 : decode cX12_taste 5 = .ok (.invokevirtual 298, 3) := by decide +kernel
theorem dX12_taste_8 : decode cX12_taste 8 = .ok (.ireturn, 1) := by decide +kernel
set_option maxRecDepth 20000 in
theorem ggX12_countWithStatus_X12_in : GoodIn wsX12_countWithStatus wsX12_in := goodIn_r _ [4] rfl (by decide +kernel)
set_option maxRecDepth 20000 in
theorem gX12_countWithStatus_X12_in : GoodIn wsX12_countWithStatus (va_wsS RX12 87 yX12_in wsX12_in) := goodIn_app (goodIn_of _ (by decide +kernel)) ggX12_countWithStatus_X12_in
set_option maxRecDepth 20000 in
theorem ggX12_countWithStatus_X12_fails : GoodIn wsX12_countWithStatus wsX12_fails := goodIn_r _ [8, 9, 19, 20, 21, 22, 23, 24, 25, 26, 27, 28, 29, 30, 31, 32, 33, 34, 35, 36, 37] rfl (by decide +kernel)
set_option maxRecDepth 20000 in
theorem gX12_countWithStatus_X12_fails : GoodIn wsX12_countWithStatus (wsV RX12 167 RX12 yX12_fails wsX12_fails) := goodIn_app (goodIn_of _ (by decide +kernel)) ggX12_countWithStatus_X12_fails
set_option maxRecDepth 20000 in
theorem ggX12_countWithStatus_X12_withStatus : GoodIn wsX12_countWithStatus wsX12_withStatus := goodIn_r _ [13, 14, 15, 16, 17, 3, 18, 19, 20, 21, 22, 23, 24, 25, 26, 27, 28, 29, 30, 31, 32, 33, 34, 35, 36, 37] rfl (by decide +kernel)
set_option maxRecDepth 20000 in
theorem gX12_countWithStatus_X12_withStatus : GoodIn wsX12_countWithStatus (wsV RX12 123 RX12 yX12_withStatus wsX12_withStatus) := goodIn_app (goodIn_of _ (by decide +kernel)) ggX12_countWithStatus_X12_withStatus
theorem dX12_countWithStatus_0 : decode cX12_countWithStatus 0 = .ok (.aload_n 0, 1) := by decide +kernel
theorem dX12_countWithStatus_1 : decode cX12_countWithStatus 1 = .ok (.iload_n 1, 1) := by decide +kernel
theorem dX12_countWithStatus_2 : decode cX12_countWithStatus 2 = .ok (.iconst 0, 1) := by decide +kernel
theorem dX12_countWithStatus_3 : decode cX12_countWithStatus 3 = .ok (.iconst 3, 1) := by decide +kernel
theorem dX12_countWithStatus_4 : decode cX12_countWithStatus 4 = .ok (.invokestatic 87, 3) := by decide +kernel
theorem dX12_countWithStatus_7 : decode cX12_countWithStatus 7 = .ok (.ifCond .ne 7, 3) := by decide +kernel
theorem dX12_countWithStatus_10 : decode cX12_countWithStatus 10 = .ok (.iconst 1, 1) := by decide +kernel
theorem dX12_countWithStatus_11 : decode cX12_countWithStatus 11 = .ok (.goto 4, 3) := by decide +kernel
theorem dX12_countWithStatus_14 : decode cX12_countWithStatus 14 = .ok (.iconst 0, 1) := by decide +kernel
theorem dX12_countWithStatus_15 : decode cX12_countWithStatus 15 = .ok (.iconst 0, 1) := by decide +kernel
theorem dX12_countWithStatus_16 : decode cX12_countWithStatus 16 = .ok (.iconst 0, 1) := by decide +kernel
theorem dX12_countWithStatus_17 : decode cX12_countWithStatus 17 = .ok (.invokevirtual 167, 3) := by decide +kernel
theorem dX12_countWithStatus_20 : decode cX12_countWithStatus 20 = .ok (.ifCond .eq 5, 3) := by decide +kernel
theorem dX12_countWithStatus_23 : decode cX12_countWithStatus 23 = .ok (.iconst 0, 1) := by decide +kernel
theorem dX12_countWithStatus_24 : decode cX12_countWithStatus 24 = .ok (.ireturn, 1) := by decide +kernel
theorem dX12_countWithStatus_25 : decode cX12_countWithStatus 25 = .ok (.aload_n 0, 1) := by decide +kernel
theorem dX12_countWithStatus_26 : decode cX12_countWithStatus 26 = .ok (.iload_n 1, 1) := by decide +kernel
theorem dX12_countWithStatus_27 : decode cX12_countWithStatus 27 = .ok (.invokevirtual 123, 3) := by decide +kernel
theorem dX12_countWithStatus_30 : decode cX12_countWithStatus 30 = .ok (.ireturn, 1) := by decide +kernel
set_option maxRecDepth 20000 in
theorem ggX12_starts_X12_plain : GoodIn wsX12_starts wsX12_plain := goodIn_r _ [6, 7, 8, 9, 10, 11, 12, 13, 14, 15, 16, 17, 18, 19, 20, 21, 22, 23, 24, 25, 26] rfl (by decide +kernel)
set_option maxRecDepth 20000 in
theorem gX12_starts_X12_plain : GoodIn wsX12_starts (wsV RX12 298 RX12 yX12_plain wsX12_plain) := goodIn_app (goodIn_of _ (by decide +kernel)) ggX12_starts_X12_plain
theorem dX12_starts_0 : decode cX12_starts 0 = .ok (.aload_n 0, 1) := by decide +kernel
theorem dX12_starts_1 : decode cX12_starts 1 = .ok (.aload_n 0, 1) := by decide +kernel
theorem dX12_starts_2 : decode cX12_starts 2 = .ok (.getfield 13, 3) := by decide +kernel
theorem dX12_starts_5 : decode cX12_starts 5 = .ok (.bipush 7, 2) := by decide +kernel
theorem dX12_starts_7 : decode cX12_starts 7 = .ok (.iaload, 1) := by decide +kernel
theorem dX12_starts_8 : decode cX12_starts 8 = .ok (.invokevirtual 298, 3) := by decide +kernel
theorem dX12_starts_11 : decode cX12_starts 11 = .ok (.ireturn, 1) := by decide +kernel
set_option maxRecDepth 20000 in
theorem ggX12_completions_X12_plain : GoodIn wsX12_completions wsX12_plain := goodIn_r _ [6, 7, 8, 9, 10, 11, 12, 13, 14, 15, 16, 17, 18, 19, 20, 21, 22, 23, 24, 25, 26] rfl (by decide +kernel)
set_option maxRecDepth 20000 in
theorem gX12_completions_X12_plain : GoodIn wsX12_completions (wsV RX12 298 RX12 yX12_plain wsX12_plain) := goodIn_app (goodIn_of _ (by decide +kernel)) ggX12_completions_X12_plain
theorem dX12_completions_0 : decode cX12_completions 0 = .ok (.aload_n 0, 1) := by decide +kernel
theorem dX12_completions_1 : decode cX12_completions 1 = .ok (.aload_n 0, 1) := by decide +kernel
theorem dX12_completions_2 : decode cX12_completions 2 = .ok (.getfield 13, 3) := by decide +kernel
theorem dX12_completions_5 : decode cX12_completions 5 = .ok (.bipush 8, 2) := by decide +kernel
theorem dX12_completions_7 : decode cX12_completions 7 = .ok (.iaload, 1) := by decide +kernel
theorem dX12_completions_8 : decode cX12_completions 8 = .ok (.invokevirtual 298, 3) := by decide +kernel
theorem dX12_completions_11 : decode cX12_completions 11 = .ok (.ireturn, 1) := by decide +kernel
set_option maxRecDepth 20000 in
theorem ggX12_burns_X12_plain : GoodIn wsX12_burns wsX12_plain := goodIn_r _ [6, 7, 8, 9, 10, 11, 12, 13, 14, 15, 16, 17, 18, 19, 20, 21, 22, 23, 24, 25, 26] rfl (by decide +kernel)
set_option maxRecDepth 20000 in
theorem gX12_burns_X12_plain : GoodIn wsX12_burns (wsV RX12 298 RX12 yX12_plain wsX12_plain) := goodIn_app (goodIn_of _ (by decide +kernel)) ggX12_burns_X12_plain
theorem dX12_burns_0 : decode cX12_burns 0 = .ok (.aload_n 0, 1) := by decide +kernel
theorem dX12_burns_1 : decode cX12_burns 1 = .ok (.aload_n 0, 1) := by decide +kernel
theorem dX12_burns_2 : decode cX12_burns 2 = .ok (.getfield 13, 3) := by decide +kernel
theorem dX12_burns_5 : decode cX12_burns 5 = .ok (.bipush 9, 2) := by decide +kernel
theorem dX12_burns_7 : decode cX12_burns 7 = .ok (.iaload, 1) := by decide +kernel
theorem dX12_burns_8 : decode cX12_burns 8 = .ok (.invokevirtual 298, 3) := by decide +kernel
theorem dX12_burns_11 : decode cX12_burns 11 = .ok (.ireturn, 1) := by decide +kernel
set_option maxRecDepth 20000 in
theorem ggX12_cookMinutes_X12_plain : GoodIn wsX12_cookMinutes wsX12_plain := goodIn_r _ [6, 7, 8, 9, 10, 11, 12, 13, 14, 15, 16, 17, 18, 19, 20, 21, 22, 23, 24, 25, 26] rfl (by decide +kernel)
set_option maxRecDepth 20000 in
theorem gX12_cookMinutes_X12_plain : GoodIn wsX12_cookMinutes (wsV RX12 298 RX12 yX12_plain wsX12_plain) := goodIn_app (goodIn_of _ (by decide +kernel)) ggX12_cookMinutes_X12_plain
theorem dX12_cookMinutes_0 : decode cX12_cookMinutes 0 = .ok (.aload_n 0, 1) := by decide +kernel
theorem dX12_cookMinutes_1 : decode cX12_cookMinutes 1 = .ok (.aload_n 0, 1) := by decide +kernel
theorem dX12_cookMinutes_2 : decode cX12_cookMinutes 2 = .ok (.getfield 13, 3) := by decide +kernel
theorem dX12_cookMinutes_5 : decode cX12_cookMinutes 5 = .ok (.bipush 10, 2) := by decide +kernel
theorem dX12_cookMinutes_7 : decode cX12_cookMinutes 7 = .ok (.iaload, 1) := by decide +kernel
theorem dX12_cookMinutes_8 : decode cX12_cookMinutes 8 = .ok (.invokevirtual 298, 3) := by decide +kernel
theorem dX12_cookMinutes_11 : decode cX12_cookMinutes 11 = .ok (.ireturn, 1) := by decide +kernel
set_option maxRecDepth 20000 in
theorem ggX12_panCapacity_X12_isPan : GoodIn wsX12_panCapacity wsX12_isPan := goodIn_r _ [5, 6, 7, 8, 4, 9, 19, 20, 21, 22, 23, 24, 25, 26, 27, 28, 29, 30, 31, 32, 33, 34, 35, 36, 37] rfl (by decide +kernel)
set_option maxRecDepth 20000 in
theorem gX12_panCapacity_X12_isPan : GoodIn wsX12_panCapacity (wsV RX12 301 RX12 yX12_isPan wsX12_isPan) := goodIn_app (goodIn_of _ (by decide +kernel)) ggX12_panCapacity_X12_isPan
set_option maxRecDepth 20000 in
theorem ggX12_panCapacity_X12_fails : GoodIn wsX12_panCapacity wsX12_fails := goodIn_r _ [13, 14, 19, 20, 21, 22, 23, 24, 25, 26, 27, 28, 29, 30, 31, 32, 33, 34, 35, 36, 37] rfl (by decide +kernel)
set_option maxRecDepth 20000 in
theorem gX12_panCapacity_X12_fails : GoodIn wsX12_panCapacity (wsV RX12 167 RX12 yX12_fails wsX12_fails) := goodIn_app (goodIn_of _ (by decide +kernel)) ggX12_panCapacity_X12_fails
set_option maxRecDepth 20000 in
theorem ggX12_panCapacity_X12_capacity : GoodIn wsX12_panCapacity wsX12_capacity := goodIn_r _ [18, 6, 19, 20, 21, 22, 23, 24, 25, 26, 27, 28, 29, 30, 31, 32, 33, 34, 35, 36, 37] rfl (by decide +kernel)
set_option maxRecDepth 20000 in
theorem gX12_panCapacity_X12_capacity : GoodIn wsX12_panCapacity (wsV RX12 116 RX12 yX12_capacity wsX12_capacity) := goodIn_app (goodIn_of _ (by decide +kernel)) ggX12_panCapacity_X12_capacity
theorem dX12_panCapacity_0 : decode cX12_panCapacity 0 = .ok (.aload_n 0, 1) := by decide +kernel
theorem dX12_panCapacity_1 : decode cX12_panCapacity 1 = .ok (.aload_n 0, 1) := by decide +kernel
theorem dX12_panCapacity_2 : decode cX12_panCapacity 2 = .ok (.iload_n 1, 1) := by decide +kernel
theorem dX12_panCapacity_3 : decode cX12_panCapacity 3 = .ok (.invokevirtual 301, 3) := by decide +kernel
theorem dX12_panCapacity_6 : decode cX12_panCapacity 6 = .ok (.ifCond .ne 7, 3) := by decide +kernel
theorem dX12_panCapacity_9 : decode cX12_panCapacity 9 = .ok (.iconst 1, 1) := by decide +kernel
theorem dX12_panCapacity_10 : decode cX12_panCapacity 10 = .ok (.goto 4, 3) := by decide +kernel
theorem dX12_panCapacity_13 : decode cX12_panCapacity 13 = .ok (.iconst 0, 1) := by decide +kernel
theorem dX12_panCapacity_14 : decode cX12_panCapacity 14 = .ok (.iconst 0, 1) := by decide +kernel
theorem dX12_panCapacity_15 : decode cX12_panCapacity 15 = .ok (.iconst 0, 1) := by decide +kernel
theorem dX12_panCapacity_16 : decode cX12_panCapacity 16 = .ok (.invokevirtual 167, 3) := by decide +kernel
theorem dX12_panCapacity_19 : decode cX12_panCapacity 19 = .ok (.ifCond .eq 5, 3) := by decide +kernel
theorem dX12_panCapacity_22 : decode cX12_panCapacity 22 = .ok (.iconst 0, 1) := by decide +kernel
theorem dX12_panCapacity_23 : decode cX12_panCapacity 23 = .ok (.ireturn, 1) := by decide +kernel
theorem dX12_panCapacity_24 : decode cX12_panCapacity 24 = .ok (.aload_n 0, 1) := by decide +kernel
theorem dX12_panCapacity_25 : decode cX12_panCapacity 25 = .ok (.iload_n 1, 1) := by decide +kernel
theorem dX12_panCapacity_26 : decode cX12_panCapacity 26 = .ok (.invokevirtual 116, 3) := by decide +kernel
theorem dX12_panCapacity_29 : decode cX12_panCapacity 29 = .ok (.ireturn, 1) := by decide +kernel
set_option maxRecDepth 20000 in
theorem ggX12_pansInUse_X12_isPan : GoodIn wsX12_pansInUse wsX12_isPan := goodIn_r _ [5, 6, 7, 8, 4, 9, 35, 36, 37, 38, 39, 40, 41, 42, 43, 44, 45, 46, 47, 48, 49, 50, 51, 52, 53] rfl (by decide +kernel)
set_option maxRecDepth 20000 in
theorem gX12_pansInUse_X12_isPan : GoodIn wsX12_pansInUse (wsV RX12 301 RX12 yX12_isPan wsX12_isPan) := goodIn_app (goodIn_of _ (by decide +kernel)) ggX12_pansInUse_X12_isPan
set_option maxRecDepth 20000 in
theorem ggX12_pansInUse_X12_fails : GoodIn wsX12_pansInUse wsX12_fails := goodIn_r _ [13, 14, 35, 36, 37, 38, 39, 40, 41, 42, 43, 44, 45, 46, 47, 48, 49, 50, 51, 52, 53] rfl (by decide +kernel)
set_option maxRecDepth 20000 in
theorem gX12_pansInUse_X12_fails : GoodIn wsX12_pansInUse (wsV RX12 167 RX12 yX12_fails wsX12_fails) := goodIn_app (goodIn_of _ (by decide +kernel)) ggX12_pansInUse_X12_fails
set_option maxRecDepth 20000 in
theorem ggX12_pansInUse_X12_usedPans : GoodIn wsX12_pansInUse wsX12_usedPans := goodIn_r _ [18, 6, 19, 20, 21, 4, 22, 23, 24, 25, 26, 27, 28, 29, 30, 31, 32, 33, 34, 35, 36, 37, 38, 39, 40, 41, 42, 43, 44, 45, 46, 47, 48, 49, 50, 51, 52, 53] rfl (by decide +kernel)
set_option maxRecDepth 20000 in
theorem gX12_pansInUse_X12_usedPans : GoodIn wsX12_pansInUse (wsV RX12 113 RX12 yX12_usedPans wsX12_usedPans) := goodIn_app (goodIn_of _ (by decide +kernel)) ggX12_pansInUse_X12_usedPans
theorem dX12_pansInUse_0 : decode cX12_pansInUse 0 = .ok (.aload_n 0, 1) := by decide +kernel
theorem dX12_pansInUse_1 : decode cX12_pansInUse 1 = .ok (.aload_n 0, 1) := by decide +kernel
theorem dX12_pansInUse_2 : decode cX12_pansInUse 2 = .ok (.iload_n 1, 1) := by decide +kernel
theorem dX12_pansInUse_3 : decode cX12_pansInUse 3 = .ok (.invokevirtual 301, 3) := by decide +kernel
theorem dX12_pansInUse_6 : decode cX12_pansInUse 6 = .ok (.ifCond .ne 7, 3) := by decide +kernel
theorem dX12_pansInUse_9 : decode cX12_pansInUse 9 = .ok (.iconst 1, 1) := by decide +kernel
theorem dX12_pansInUse_10 : decode cX12_pansInUse 10 = .ok (.goto 4, 3) := by decide +kernel
theorem dX12_pansInUse_13 : decode cX12_pansInUse 13 = .ok (.iconst 0, 1) := by decide +kernel
theorem dX12_pansInUse_14 : decode cX12_pansInUse 14 = .ok (.iconst 0, 1) := by decide +kernel
theorem dX12_pansInUse_15 : decode cX12_pansInUse 15 = .ok (.iconst 0, 1) := by decide +kernel
theorem dX12_pansInUse_16 : decode cX12_pansInUse 16 = .ok (.invokevirtual 167, 3) := by decide +kernel
theorem dX12_pansInUse_19 : decode cX12_pansInUse 19 = .ok (.ifCond .eq 5, 3) := by decide +kernel
theorem dX12_pansInUse_22 : decode cX12_pansInUse 22 = .ok (.iconst 0, 1) := by decide +kernel
theorem dX12_pansInUse_23 : decode cX12_pansInUse 23 = .ok (.ireturn, 1) := by decide +kernel
theorem dX12_pansInUse_24 : decode cX12_pansInUse 24 = .ok (.aload_n 0, 1) := by decide +kernel
theorem dX12_pansInUse_25 : decode cX12_pansInUse 25 = .ok (.iload_n 1, 1) := by decide +kernel
theorem dX12_pansInUse_26 : decode cX12_pansInUse 26 = .ok (.invokevirtual 113, 3) := by decide +kernel
theorem dX12_pansInUse_29 : decode cX12_pansInUse 29 = .ok (.ireturn, 1) := by decide +kernel
set_option maxRecDepth 20000 in
theorem ggX12_field_X12_isStep : GoodIn wsX12_field wsX12_isStep := goodIn_r _ [5, 6, 7, 8, 4, 9, 19, 20, 21, 22, 23, 24, 25, 26, 27, 28, 29, 30, 31, 32, 33, 34, 35, 36, 37] rfl (by decide +kernel)
set_option maxRecDepth 20000 in
theorem gX12_field_X12_isStep : GoodIn wsX12_field (wsV RX12 304 RX12 yX12_isStep wsX12_isStep) := goodIn_app (goodIn_of _ (by decide +kernel)) ggX12_field_X12_isStep
set_option maxRecDepth 20000 in
theorem ggX12_field_X12_fails : GoodIn wsX12_field wsX12_fails := goodIn_r _ [13, 14, 19, 20, 21, 22, 23, 24, 25, 26, 27, 28, 29, 30, 31, 32, 33, 34, 35, 36, 37] rfl (by decide +kernel)
set_option maxRecDepth 20000 in
theorem gX12_field_X12_fails : GoodIn wsX12_field (wsV RX12 167 RX12 yX12_fails wsX12_fails) := goodIn_app (goodIn_of _ (by decide +kernel)) ggX12_field_X12_fails
set_option maxRecDepth 20000 in
theorem ggX12_field_X12_of : GoodIn wsX12_field wsX12_of := goodIn_r _ [18, 6, 19, 20, 21, 22, 23, 24, 25, 26, 27, 28, 29, 30, 31, 32, 33, 34, 35, 36, 37] rfl (by decide +kernel)
set_option maxRecDepth 20000 in
theorem gX12_field_X12_of : GoodIn wsX12_field (wsV RX12 95 RX12 yX12_of wsX12_of) := goodIn_app (goodIn_of _ (by decide +kernel)) ggX12_field_X12_of
theorem dX12_field_0 : decode cX12_field 0 = .ok (.aload_n 0, 1) := by decide +kernel
theorem dX12_field_1 : decode cX12_field 1 = .ok (.aload_n 0, 1) := by decide +kernel
theorem dX12_field_2 : decode cX12_field 2 = .ok (.iload_n 1, 1) := by decide +kernel
theorem dX12_field_3 : decode cX12_field 3 = .ok (.invokevirtual 304, 3) := by decide +kernel
theorem dX12_field_6 : decode cX12_field 6 = .ok (.ifCond .ne 7, 3) := by decide +kernel
theorem dX12_field_9 : decode cX12_field 9 = .ok (.iconst 1, 1) := by decide +kernel
theorem dX12_field_10 : decode cX12_field 10 = .ok (.goto 4, 3) := by decide +kernel
theorem dX12_field_13 : decode cX12_field 13 = .ok (.iconst 0, 1) := by decide +kernel
theorem dX12_field_14 : decode cX12_field 14 = .ok (.iconst 0, 1) := by decide +kernel
theorem dX12_field_15 : decode cX12_field 15 = .ok (.iconst 0, 1) := by decide +kernel
theorem dX12_field_16 : decode cX12_field 16 = .ok (.invokevirtual 167, 3) := by decide +kernel
theorem dX12_field_19 : decode cX12_field 19 = .ok (.ifCond .eq 5, 3) := by decide +kernel
theorem dX12_field_22 : decode cX12_field 22 = .ok (.iconst 0, 1) := by decide +kernel
theorem dX12_field_23 : decode cX12_field 23 = .ok (.ireturn, 1) := by decide +kernel
theorem dX12_field_24 : decode cX12_field 24 = .ok (.aload_n 0, 1) := by decide +kernel
theorem dX12_field_25 : decode cX12_field 25 = .ok (.iload_n 1, 1) := by decide +kernel
theorem dX12_field_26 : decode cX12_field 26 = .ok (.iload_n 2, 1) := by decide +kernel
theorem dX12_field_27 : decode cX12_field 27 = .ok (.invokevirtual 95, 3) := by decide +kernel
theorem dX12_field_30 : decode cX12_field 30 = .ok (.ireturn, 1) := by decide +kernel
set_option maxRecDepth 20000 in
theorem ggX12_duration_X12_field : GoodIn wsX12_duration wsX12_field := goodIn_r _ [5, 6, 7, 8, 4, 9, 10, 11, 12, 13, 14, 15, 16, 17, 18, 19, 20, 21, 22, 23, 24, 25, 26, 27, 28, 29, 30, 31, 32, 33, 34, 35, 36, 37, 38, 39, 40, 41] rfl (by decide +kernel)
set_option maxRecDepth 20000 in
theorem gX12_duration_X12_field : GoodIn wsX12_duration (wsV RX12 307 RX12 yX12_field wsX12_field) := goodIn_app (goodIn_of _ (by decide +kernel)) ggX12_duration_X12_field
theorem dX12_duration_0 : decode cX12_duration 0 = .ok (.aload_n 0, 1) := by decide +kernel
theorem dX12_duration_1 : decode cX12_duration 1 = .ok (.iload_n 1, 1) := by decide +kernel
theorem dX12_duration_2 : decode cX12_duration 2 = .ok (.bipush 7, 2) := by decide +kernel
theorem dX12_duration_4 : decode cX12_duration 4 = .ok (.invokevirtual 307, 3) := by decide +kernel
theorem dX12_duration_7 : decode cX12_duration 7 = .ok (.ireturn, 1) := by decide +kernel
set_option maxRecDepth 20000 in
theorem ggX12_stepTaste_X12_field : GoodIn wsX12_stepTaste wsX12_field := goodIn_r _ [5, 6, 7, 8, 4, 9, 10, 11, 12, 13, 14, 15, 16, 17, 18, 19, 20, 21, 22, 23, 24, 25, 26, 27, 28, 29, 30, 31, 32, 33, 34, 35, 36, 37, 38, 39, 40, 41] rfl (by decide +kernel)
set_option maxRecDepth 20000 in
theorem gX12_stepTaste_X12_field : GoodIn wsX12_stepTaste (wsV RX12 307 RX12 yX12_field wsX12_field) := goodIn_app (goodIn_of _ (by decide +kernel)) ggX12_stepTaste_X12_field
theorem dX12_stepTaste_0 : decode cX12_stepTaste 0 = .ok (.aload_n 0, 1) := by decide +kernel
theorem dX12_stepTaste_1 : decode cX12_stepTaste 1 = .ok (.iload_n 1, 1) := by decide +kernel
theorem dX12_stepTaste_2 : decode cX12_stepTaste 2 = .ok (.bipush 8, 2) := by decide +kernel
theorem dX12_stepTaste_4 : decode cX12_stepTaste 4 = .ok (.invokevirtual 307, 3) := by decide +kernel
theorem dX12_stepTaste_7 : decode cX12_stepTaste 7 = .ok (.ireturn, 1) := by decide +kernel
set_option maxRecDepth 20000 in
theorem ggX12_panType_X12_field : GoodIn wsX12_panType wsX12_field := goodIn_r _ [5, 6, 7, 8, 4, 9, 10, 11, 12, 13, 14, 15, 16, 17, 18, 19, 20, 21, 22, 23, 24, 25, 26, 27, 28, 29, 30, 31, 32, 33, 34, 35, 36, 37, 38, 39, 40, 41] rfl (by decide +kernel)
set_option maxRecDepth 20000 in
theorem gX12_panType_X12_field : GoodIn wsX12_panType (wsV RX12 307 RX12 yX12_field wsX12_field) := goodIn_app (goodIn_of _ (by decide +kernel)) ggX12_panType_X12_field
theorem dX12_panType_0 : decode cX12_panType 0 = .ok (.aload_n 0, 1) := by decide +kernel
theorem dX12_panType_1 : decode cX12_panType 1 = .ok (.iload_n 1, 1) := by decide +kernel
theorem dX12_panType_2 : decode cX12_panType 2 = .ok (.bipush 9, 2) := by decide +kernel
theorem dX12_panType_4 : decode cX12_panType 4 = .ok (.invokevirtual 307, 3) := by decide +kernel
theorem dX12_panType_7 : decode cX12_panType 7 = .ok (.ireturn, 1) := by decide +kernel
set_option maxRecDepth 20000 in
theorem ggX12_isHot_X12_field : GoodIn wsX12_isHot wsX12_field := goodIn_r _ [5, 6, 7, 8, 4, 9, 10, 11, 12, 13, 14, 15, 16, 17, 18, 19, 20, 21, 22, 23, 24, 25, 26, 27, 28, 29, 30, 31, 32, 33, 34, 35, 36, 37, 38, 39, 40, 41] rfl (by decide +kernel)
set_option maxRecDepth 20000 in
theorem gX12_isHot_X12_field : GoodIn wsX12_isHot (wsV RX12 307 RX12 yX12_field wsX12_field) := goodIn_app (goodIn_of _ (by decide +kernel)) ggX12_isHot_X12_field
theorem dX12_isHot_0 : decode cX12_isHot 0 = .ok (.aload_n 0, 1) := by decide +kernel
theorem dX12_isHot_1 : decode cX12_isHot 1 = .ok (.iload_n 1, 1) := by decide +kernel
theorem dX12_isHot_2 : decode cX12_isHot 2 = .ok (.bipush 10, 2) := by decide +kernel
theorem dX12_isHot_4 : decode cX12_isHot 4 = .ok (.invokevirtual 307, 3) := by decide +kernel
theorem dX12_isHot_7 : decode cX12_isHot 7 = .ok (.iconst 1, 1) := by decide +kernel
theorem dX12_isHot_8 : decode cX12_isHot 8 = .ok (.if_icmp .ne 7, 3) := by decide +kernel
theorem dX12_isHot_11 : decode cX12_isHot 11 = .ok (.iconst 1, 1) := by decide +kernel
theorem dX12_isHot_12 : decode cX12_isHot 12 = .ok (.goto 4, 3) := by decide +kernel
theorem dX12_isHot_15 : decode cX12_isHot 15 = .ok (.iconst 0, 1) := by decide +kernel
theorem dX12_isHot_16 : decode cX12_isHot 16 = .ok (.ireturn, 1) := by decide +kernel
set_option maxRecDepth 20000 in
theorem ggX12_isUnattended_X12_field : GoodIn wsX12_isUnattended wsX12_field := goodIn_r _ [5, 6, 7, 8, 4, 9, 10, 11, 12, 13, 14, 15, 16, 17, 18, 19, 20, 21, 22, 23, 24, 25, 26, 27, 28, 29, 30, 31, 32, 33, 34, 35, 36, 37, 38, 39, 40, 41] rfl (by decide +kernel)
set_option maxRecDepth 20000 in
theorem gX12_isUnattended_X12_field : GoodIn wsX12_isUnattended (wsV RX12 307 RX12 yX12_field wsX12_field) := goodIn_app (goodIn_of _ (by decide +kernel)) ggX12_isUnattended_X12_field
theorem dX12_isUnattended_0 : decode cX12_isUnattended 0 = .ok (.aload_n 0, 1) := by decide +kernel
theorem dX12_isUnattended_1 : decode cX12_isUnattended 1 = .ok (.iload_n 1, 1) := by decide +kernel
theorem dX12_isUnattended_2 : decode cX12_isUnattended 2 = .ok (.bipush 11, 2) := by decide +kernel
theorem dX12_isUnattended_4 : decode cX12_isUnattended 4 = .ok (.invokevirtual 307, 3) := by decide +kernel
theorem dX12_isUnattended_7 : decode cX12_isUnattended 7 = .ok (.iconst 1, 1) := by decide +kernel
theorem dX12_isUnattended_8 : decode cX12_isUnattended 8 = .ok (.if_icmp .ne 7, 3) := by decide +kernel
theorem dX12_isUnattended_11 : decode cX12_isUnattended 11 = .ok (.iconst 1, 1) := by decide +kernel
theorem dX12_isUnattended_12 : decode cX12_isUnattended 12 = .ok (.goto 4, 3) := by decide +kernel
theorem dX12_isUnattended_15 : decode cX12_isUnattended 15 = .ok (.iconst 0, 1) := by decide +kernel
theorem dX12_isUnattended_16 : decode cX12_isUnattended 16 = .ok (.ireturn, 1) := by decide +kernel
set_option maxRecDepth 20000 in
theorem ggX12_predecessor_X12_isStep : GoodIn wsX12_predecessor wsX12_isStep := goodIn_r _ [5, 6, 7, 8, 4, 9, 19, 20, 21, 22, 23, 24, 25, 26, 27, 28, 29, 30, 31, 32, 33, 34, 35, 36, 37] rfl (by decide +kernel)
set_option maxRecDepth 20000 in
theorem gX12_predecessor_X12_isStep : GoodIn wsX12_predecessor (wsV RX12 304 RX12 yX12_isStep wsX12_isStep) := goodIn_app (goodIn_of _ (by decide +kernel)) ggX12_predecessor_X12_isStep
set_option maxRecDepth 20000 in
theorem ggX12_predecessor_X12_fails : GoodIn wsX12_predecessor wsX12_fails := goodIn_r _ [13, 14, 19, 20, 21, 22, 23, 24, 25, 26, 27, 28, 29, 30, 31, 32, 33, 34, 35, 36, 37] rfl (by decide +kernel)
set_option maxRecDepth 20000 in
theorem gX12_predecessor_X12_fails : GoodIn wsX12_predecessor (wsV RX12 167 RX12 yX12_fails wsX12_fails) := goodIn_app (goodIn_of _ (by decide +kernel)) ggX12_predecessor_X12_fails
set_option maxRecDepth 20000 in
theorem ggX12_predecessor_X12_of : GoodIn wsX12_predecessor wsX12_of := goodIn_r _ [18, 6, 19, 20, 21, 22, 23, 24, 25, 26, 27, 28, 29, 30, 31, 32, 33, 34, 35, 36, 37] rfl (by decide +kernel)
set_option maxRecDepth 20000 in
theorem gX12_predecessor_X12_of : GoodIn wsX12_predecessor (wsV RX12 95 RX12 yX12_of wsX12_of) := goodIn_app (goodIn_of _ (by decide +kernel)) ggX12_predecessor_X12_of
set_option maxRecDepth 20000 in
theorem ggX12_predecessor_X12_in : GoodIn wsX12_predecessor wsX12_in := goodIn_r _ [9] rfl (by decide +kernel)
set_option maxRecDepth 20000 in
theorem gX12_predecessor_X12_in : GoodIn wsX12_predecessor (va_wsS RX12 87 yX12_in wsX12_in) := goodIn_app (goodIn_of _ (by decide +kernel)) ggX12_predecessor_X12_in
theorem dX12_predecessor_0 : decode cX12_predecessor 0 = .ok (.aload_n 0, 1) := by decide +kernel
theorem dX12_predecessor_1 : decode cX12_predecessor 1 = .ok (.aload_n 0, 1) := by decide +kernel
theorem dX12_predecessor_2 : decode cX12_predecessor 2 = .ok (.iload_n 1, 1) := by decide +kernel
theorem dX12_predecessor_3 : decode cX12_predecessor 3 = .ok (.invokevirtual 304, 3) := by decide +kernel
theorem dX12_predecessor_6 : decode cX12_predecessor 6 = .ok (.ifCond .ne 7, 3) := by decide +kernel
theorem dX12_predecessor_9 : decode cX12_predecessor 9 = .ok (.iconst 1, 1) := by decide +kernel
theorem dX12_predecessor_10 : decode cX12_predecessor 10 = .ok (.goto 4, 3) := by decide +kernel
theorem dX12_predecessor_13 : decode cX12_predecessor 13 = .ok (.iconst 0, 1) := by decide +kernel
theorem dX12_predecessor_14 : decode cX12_predecessor 14 = .ok (.iconst 0, 1) := by decide +kernel
theorem dX12_predecessor_15 : decode cX12_predecessor 15 = .ok (.iconst 0, 1) := by decide +kernel
theorem dX12_predecessor_16 : decode cX12_predecessor 16 = .ok (.invokevirtual 167, 3) := by decide +kernel
theorem dX12_predecessor_19 : decode cX12_predecessor 19 = .ok (.ifCond .eq 5, 3) := by decide +kernel
theorem dX12_predecessor_22 : decode cX12_predecessor 22 = .ok (.iconst 0, 1) := by decide +kernel
theorem dX12_predecessor_23 : decode cX12_predecessor 23 = .ok (.ireturn, 1) := by decide +kernel
theorem dX12_predecessor_24 : decode cX12_predecessor 24 = .ok (.iload_n 2, 1) := by decide +kernel
theorem dX12_predecessor_25 : decode cX12_predecessor 25 = .ok (.iconst 0, 1) := by decide +kernel
theorem dX12_predecessor_26 : decode cX12_predecessor 26 = .ok (.aload_n 0, 1) := by decide +kernel
theorem dX12_predecessor_27 : decode cX12_predecessor 27 = .ok (.iload_n 1, 1) := by decide +kernel
theorem dX12_predecessor_28 : decode cX12_predecessor 28 = .ok (.bipush 12, 2) := by decide +kernel
theorem dX12_predecessor_30 : decode cX12_predecessor 30 = .ok (.invokevirtual 95, 3) := by decide +kernel
theorem dX12_predecessor_33 : decode cX12_predecessor 33 = .ok (.iconst 1, 1) := by decide +kernel
theorem dX12_predecessor_34 : decode cX12_predecessor 34 = .ok (.isub, 1) := by decide +kernel
theorem dX12_predecessor_35 : decode cX12_predecessor 35 = .ok (.invokestatic 87, 3) := by decide +kernel
theorem dX12_predecessor_38 : decode cX12_predecessor 38 = .ok (.ifCond .eq 15, 3) := by decide +kernel
theorem dX12_predecessor_41 : decode cX12_predecessor 41 = .ok (.aload_n 0, 1) := by decide +kernel
theorem dX12_predecessor_42 : decode cX12_predecessor 42 = .ok (.iload_n 1, 1) := by decide +kernel
theorem dX12_predecessor_43 : decode cX12_predecessor 43 = .ok (.bipush 13, 2) := by decide +kernel
theorem dX12_predecessor_45 : decode cX12_predecessor 45 = .ok (.iload_n 2, 1) := by decide +kernel
theorem dX12_predecessor_46 : decode cX12_predecessor 46 = .ok (.iadd, 1) := by decide +kernel
theorem dX12_predecessor_47 : decode cX12_predecessor 47 = .ok (.invokevirtual 95, 3) := by decide +kernel
theorem dX12_predecessor_50 : decode cX12_predecessor 50 = .ok (.goto 4, 3) := by decide +kernel
theorem dX12_predecessor_53 : decode cX12_predecessor 53 = .ok (.iconst (-1), 1) := by decide +kernel
theorem dX12_predecessor_54 : decode cX12_predecessor 54 = .ok (.ireturn, 1) := by decide +kernel
set_option maxRecDepth 20000 in
theorem ggX12_successorCount_X12_isStep : GoodIn wsX12_successorCount wsX12_isStep := goodIn_r _ [5, 6, 7, 8, 4, 9, 27, 28, 29, 30, 31, 32, 33, 34, 35, 36, 37, 38, 39, 40, 41, 42, 43, 44, 45] rfl (by decide +kernel)
set_option maxRecDepth 20000 in
theorem gX12_successorCount_X12_isStep : GoodIn wsX12_successorCount (wsV RX12 304 RX12 yX12_isStep wsX12_isStep) := goodIn_app (goodIn_of _ (by decide +kernel)) ggX12_successorCount_X12_isStep
set_option maxRecDepth 20000 in
theorem ggX12_successorCount_X12_fails : GoodIn wsX12_successorCount wsX12_fails := goodIn_r _ [13, 14, 27, 28, 29, 30, 31, 32, 33, 34, 35, 36, 37, 38, 39, 40, 41, 42, 43, 44, 45] rfl (by decide +kernel)
set_option maxRecDepth 20000 in
theorem gX12_successorCount_X12_fails : GoodIn wsX12_successorCount (wsV RX12 167 RX12 yX12_fails wsX12_fails) := goodIn_app (goodIn_of _ (by decide +kernel)) ggX12_successorCount_X12_fails
set_option maxRecDepth 20000 in
theorem ggX12_successorCount_X12_successors : GoodIn wsX12_successorCount wsX12_successors := goodIn_r _ [18, 6, 19, 20, 21, 4, 22, 23, 24, 25, 26, 27, 28, 29, 30, 31, 32, 33, 34, 35, 36, 37, 38, 39, 40, 41, 42, 43, 44, 45] rfl (by decide +kernel)
set_option maxRecDepth 20000 in
theorem gX12_successorCount_X12_successors : GoodIn wsX12_successorCount (wsV RX12 310 RX12 yX12_successors wsX12_successors) := goodIn_app (goodIn_of _ (by decide +kernel)) ggX12_successorCount_X12_successors
theorem dX12_successorCount_0 : decode cX12_successorCount 0 = .ok (.aload_n 0, 1) := by decide +kernel
theorem dX12_successorCount_1 : decode cX12_successorCount 1 = .ok (.aload_n 0, 1) := by decide +kernel
theorem dX12_successorCount_2 : decode cX12_successorCount 2 = .ok (.iload_n 1, 1) := by decide +kernel
theorem dX12_successorCount_3 : decode cX12_successorCount 3 = .ok (.invokevirtual 304, 3) := by decide +kernel
theorem dX12_successorCount_6 : decode cX12_successorCount 6 = .ok (.ifCond .ne 7, 3) := by decide +kernel
theorem dX12_successorCount_9 : decode cX12_successorCount 9 = .ok (.iconst 1, 1) := by decide +kernel
theorem dX12_successorCount_10 : decode cX12_successorCount 10 = .ok (.goto 4, 3) := by decide +kernel
theorem dX12_successorCount_13 : decode cX12_successorCount 13 = .ok (.iconst 0, 1) := by decide +kernel
theorem dX12_successorCount_14 : decode cX12_successorCount 14 = .ok (.iconst 0, 1) := by decide +kernel
theorem dX12_successorCount_15 : decode cX12_successorCount 15 = .ok (.iconst 0, 1) := by decide +kernel
theorem dX12_successorCount_16 : decode cX12_successorCount 16 = .ok (.invokevirtual 167, 3) := by decide +kernel
theorem dX12_successorCount_19 : decode cX12_successorCount 19 = .ok (.ifCond .eq 5, 3) := by decide +kernel
theorem dX12_successorCount_22 : decode cX12_successorCount 22 = .ok (.iconst 0, 1) := by decide +kernel
theorem dX12_successorCount_23 : decode cX12_successorCount 23 = .ok (.ireturn, 1) := by decide +kernel
theorem dX12_successorCount_24 : decode cX12_successorCount 24 = .ok (.aload_n 0, 1) := by decide +kernel
theorem dX12_successorCount_25 : decode cX12_successorCount 25 = .ok (.iload_n 1, 1) := by decide +kernel
theorem dX12_successorCount_26 : decode cX12_successorCount 26 = .ok (.invokevirtual 310, 3) := by decide +kernel
theorem dX12_successorCount_29 : decode cX12_successorCount 29 = .ok (.ireturn, 1) := by decide +kernel
set_option maxRecDepth 20000 in
theorem ggX12_dependsOn_X12_isStep : GoodIn wsX12_dependsOn wsX12_isStep := goodIn_r _ [7, 1, 8, 9, 6, 10, 20, 21, 22, 23, 24, 25, 26, 27, 28, 29, 30, 31, 32, 33, 34, 35, 36, 37, 38] rfl (by decide +kernel)
set_option maxRecDepth 20000 in
theorem gX12_dependsOn_X12_isStep : GoodIn wsX12_dependsOn (wsV RX12 304 RX12 yX12_isStep wsX12_isStep) := goodIn_app (goodIn_of _ (by decide +kernel)) ggX12_dependsOn_X12_isStep
set_option maxRecDepth 20000 in
theorem ggX12_dependsOn_X12_fails : GoodIn wsX12_dependsOn wsX12_fails := goodIn_r _ [14, 15, 20, 21, 22, 23, 24, 25, 26, 27, 28, 29, 30, 31, 32, 33, 34, 35, 36, 37, 38] rfl (by decide +kernel)
set_option maxRecDepth 20000 in
theorem gX12_dependsOn_X12_fails : GoodIn wsX12_dependsOn (wsV RX12 167 RX12 yX12_fails wsX12_fails) := goodIn_app (goodIn_of _ (by decide +kernel)) ggX12_dependsOn_X12_fails
set_option maxRecDepth 20000 in
theorem ggX12_dependsOn_X12_of : GoodIn wsX12_dependsOn wsX12_of := goodIn_r _ [19, 1, 20, 21, 22, 23, 24, 25, 26, 27, 28, 29, 30, 31, 32, 33, 34, 35, 36, 37, 38] rfl (by decide +kernel)
set_option maxRecDepth 20000 in
theorem gX12_dependsOn_X12_of : GoodIn wsX12_dependsOn (wsV RX12 95 RX12 yX12_of wsX12_of) := goodIn_app (goodIn_of _ (by decide +kernel)) ggX12_dependsOn_X12_of
theorem dX12_dependsOn_0 : decode cX12_dependsOn 0 = .ok (.aload_n 0, 1) := by decide +kernel
theorem dX12_dependsOn_1 : decode cX12_dependsOn 1 = .ok (.aload_n 0, 1) := by decide +kernel
theorem dX12_dependsOn_2 : decode cX12_dependsOn 2 = .ok (.iload_n 1, 1) := by decide +kernel
theorem dX12_dependsOn_3 : decode cX12_dependsOn 3 = .ok (.invokevirtual 304, 3) := by decide +kernel
theorem dX12_dependsOn_6 : decode cX12_dependsOn 6 = .ok (.ifCond .eq 11, 3) := by decide +kernel
theorem dX12_dependsOn_9 : decode cX12_dependsOn 9 = .ok (.aload_n 0, 1) := by decide +kernel
theorem dX12_dependsOn_10 : decode cX12_dependsOn 10 = .ok (.iload_n 2, 1) := by decide +kernel
theorem dX12_dependsOn_11 : decode cX12_dependsOn 11 = .ok (.invokevirtual 304, 3) := by decide +kernel
theorem dX12_dependsOn_14 : decode cX12_dependsOn 14 = .ok (.ifCond .ne 7, 3) := by decide +kernel
theorem dX12_dependsOn_17 : decode cX12_dependsOn 17 = .ok (.iconst 1, 1) := by decide +kernel
theorem dX12_dependsOn_18 : decode cX12_dependsOn 18 = .ok (.goto 4, 3) := by decide +kernel
theorem dX12_dependsOn_21 : decode cX12_dependsOn 21 = .ok (.iconst 0, 1) := by decide +kernel
theorem dX12_dependsOn_22 : decode cX12_dependsOn 22 = .ok (.iconst 0, 1) := by decide +kernel
theorem dX12_dependsOn_23 : decode cX12_dependsOn 23 = .ok (.iconst 0, 1) := by decide +kernel
theorem dX12_dependsOn_24 : decode cX12_dependsOn 24 = .ok (.invokevirtual 167, 3) := by decide +kernel
theorem dX12_dependsOn_27 : decode cX12_dependsOn 27 = .ok (.ifCond .eq 5, 3) := by decide +kernel
theorem dX12_dependsOn_30 : decode cX12_dependsOn 30 = .ok (.iconst 0, 1) := by decide +kernel
theorem dX12_dependsOn_31 : decode cX12_dependsOn 31 = .ok (.ireturn, 1) := by decide +kernel
theorem dX12_dependsOn_32 : decode cX12_dependsOn 32 = .ok (.iconst 0, 1) := by decide +kernel
theorem dX12_dependsOn_33 : decode cX12_dependsOn 33 = .ok (.istore_n 3, 1) := by decide +kernel
theorem dX12_dependsOn_34 : decode cX12_dependsOn 34 = .ok (.iload_n 3, 1) := by decide +kernel
theorem dX12_dependsOn_35 : decode cX12_dependsOn 35 = .ok (.aload_n 0, 1) := by decide +kernel
theorem dX12_dependsOn_36 : decode cX12_dependsOn 36 = .ok (.getfield 13, 3) := by decide +kernel
theorem dX12_dependsOn_39 : decode cX12_dependsOn 39 = .ok (.bipush 13, 2) := by decide +kernel
theorem dX12_dependsOn_41 : decode cX12_dependsOn 41 = .ok (.iaload, 1) := by decide +kernel
theorem dX12_dependsOn_42 : decode cX12_dependsOn 42 = .ok (.if_icmp .ge 16, 3) := by decide +kernel
theorem dX12_dependsOn_45 : decode cX12_dependsOn 45 = .ok (.aload_n 0, 1) := by decide +kernel
theorem dX12_dependsOn_46 : decode cX12_dependsOn 46 = .ok (.getfield 48, 3) := by decide +kernel
theorem dX12_dependsOn_49 : decode cX12_dependsOn 49 = .ok (.iload_n 3, 1) := by decide +kernel
theorem dX12_dependsOn_50 : decode cX12_dependsOn 50 = .ok (.iconst 0, 1) := by decide +kernel
theorem dX12_dependsOn_51 : decode cX12_dependsOn 51 = .ok (.bastore, 1) := by decide +kernel
theorem dX12_dependsOn_52 : decode cX12_dependsOn 52 = .ok (.iinc 3 1, 3) := by decide +kernel
theorem dX12_dependsOn_55 : decode cX12_dependsOn 55 = .ok (.goto (-21), 3) := by decide +kernel
theorem dX12_dependsOn_58 : decode cX12_dependsOn 58 = .ok (.aload_n 0, 1) := by decide +kernel
theorem dX12_dependsOn_59 : decode cX12_dependsOn 59 = .ok (.getfield 48, 3) := by decide +kernel
theorem dX12_dependsOn_62 : decode cX12_dependsOn 62 = .ok (.iload_n 1, 1) := by decide +kernel
theorem dX12_dependsOn_63 : decode cX12_dependsOn 63 = .ok (.iconst 1, 1) := by decide +kernel
theorem dX12_dependsOn_64 : decode cX12_dependsOn 64 = .ok (.bastore, 1) := by decide +kernel
theorem dX12_dependsOn_65 : decode cX12_dependsOn 65 = .ok (.iload_n 1, 1) := by decide +kernel
theorem dX12_dependsOn_66 : decode cX12_dependsOn 66 = .ok (.istore_n 3, 1) := by decide +kernel
theorem dX12_dependsOn_67 : decode cX12_dependsOn 67 = .ok (.iload_n 3, 1) := by decide +kernel
theorem dX12_dependsOn_68 : decode cX12_dependsOn 68 = .ok (.ifCond .lt 55, 3) := by decide +kernel
theorem dX12_dependsOn_71 : decode cX12_dependsOn 71 = .ok (.iconst 0, 1) := by decide +kernel
theorem dX12_dependsOn_72 : decode cX12_dependsOn 72 = .ok (.istore 4, 2) := by decide +kernel
theorem dX12_dependsOn_74 : decode cX12_dependsOn 74 = .ok (.aload_n 0, 1) := by decide +kernel
theorem dX12_dependsOn_75 : decode cX12_dependsOn 75 = .ok (.getfield 48, 3) := by decide +kernel
theorem dX12_dependsOn_78 : decode cX12_dependsOn 78 = .ok (.iload_n 3, 1) := by decide +kernel
theorem dX12_dependsOn_79 : decode cX12_dependsOn 79 = .ok (.baload, 1) := by decide +kernel
theorem dX12_dependsOn_80 : decode cX12_dependsOn 80 = .ok (.ifCond .eq 37, 3) := by decide +kernel
theorem dX12_dependsOn_83 : decode cX12_dependsOn 83 = .ok (.iload 4, 2) := by decide +kernel
theorem dX12_dependsOn_85 : decode cX12_dependsOn 85 = .ok (.aload_n 0, 1) := by decide +kernel
theorem dX12_dependsOn_86 : decode cX12_dependsOn 86 = .ok (.iload_n 3, 1) := by decide +kernel
theorem dX12_dependsOn_87 : decode cX12_dependsOn 87 = .ok (.bipush 12, 2) := by decide +kernel
theorem dX12_dependsOn_89 : decode cX12_dependsOn 89 = .ok (.invokevirtual 95, 3) := by decide +kernel
theorem dX12_dependsOn_92 : decode cX12_dependsOn 92 = .ok (.if_icmp .ge 25, 3) := by decide +kernel
theorem dX12_dependsOn_95 : decode cX12_dependsOn 95 = .ok (.aload_n 0, 1) := by decide +kernel
theorem dX12_dependsOn_96 : decode cX12_dependsOn 96 = .ok (.getfield 48, 3) := by decide +kernel
theorem dX12_dependsOn_99 : decode cX12_dependsOn 99 = .ok (.aload_n 0, 1) := by decide +kernel
theorem dX12_dependsOn_100 : decode cX12_dependsOn 100 = .ok (.iload_n 3, 1) := by decide +kernel
theorem dX12_dependsOn_101 : decode cX12_dependsOn 101 = .ok (.bipush 13, 2) := by decide +kernel
theorem dX12_dependsOn_103 : decode cX12_dependsOn 103 = .ok (.iload 4, 2) := by decide +kernel
theorem dX12_dependsOn_105 : decode cX12_dependsOn 105 = .ok (.iadd, 1) := by decide +kernel
theorem dX12_dependsOn_106 : decode cX12_dependsOn 106 = .ok (.invokevirtual 95, 3) := by decide +kernel
theorem dX12_dependsOn_109 : decode cX12_dependsOn 109 = .ok (.iconst 1, 1) := by decide +kernel
theorem dX12_dependsOn_110 : decode cX12_dependsOn 110 = .ok (.bastore, 1) := by decide +kernel
theorem dX12_dependsOn_111 : decode cX12_dependsOn 111 = .ok (.iinc 4 1, 3) := by decide +kernel
theorem dX12_dependsOn_114 : decode cX12_dependsOn 114 = .ok (.goto (-40), 3) := by decide +kernel
theorem dX12_dependsOn_117 : decode cX12_dependsOn 117 = .ok (.iinc 3 (-1), 3) := by decide +kernel
theorem dX12_dependsOn_120 : decode cX12_dependsOn 120 = .ok (.goto (-53), 3) := by decide +kernel
theorem dX12_dependsOn_123 : decode cX12_dependsOn 123 = .ok (.iload_n 1, 1) := by decide +kernel
theorem dX12_dependsOn_124 : decode cX12_dependsOn 124 = .ok (.iload_n 2, 1) := by decide +kernel
theorem dX12_dependsOn_125 : decode cX12_dependsOn 125 = .ok (.if_icmp .eq 16, 3) := by decide +kernel
theorem dX12_dependsOn_128 : decode cX12_dependsOn 128 = .ok (.aload_n 0, 1) := by decide +kernel
theorem dX12_dependsOn_129 : decode cX12_dependsOn 129 = .ok (.getfield 48, 3) := by decide +kernel
theorem dX12_dependsOn_132 : decode cX12_dependsOn 132 = .ok (.iload_n 2, 1) := by decide +kernel
theorem dX12_dependsOn_133 : decode cX12_dependsOn 133 = .ok (.baload, 1) := by decide +kernel
theorem dX12_dependsOn_134 : decode cX12_dependsOn 134 = .ok (.ifCond .eq 7, 3) := by decide +kernel
theorem dX12_dependsOn_137 : decode cX12_dependsOn 137 = .ok (.iconst 1, 1) := by decide +kernel
theorem dX12_dependsOn_138 : decode cX12_dependsOn 138 = .ok (.goto 4, 3) := by decide +kernel
theorem dX12_dependsOn_141 : decode cX12_dependsOn 141 = .ok (.iconst 0, 1) := by decide +kernel
theorem dX12_dependsOn_142 : decode cX12_dependsOn 142 = .ok (.ireturn, 1) := by decide +kernel
set_option maxRecDepth 20000 in
theorem ggX12_pathLength_X12_isStep : GoodIn wsX12_pathLength wsX12_isStep := goodIn_r _ [6, 7, 8, 9, 5, 10, 28, 29, 30, 31, 32, 33, 34, 35, 36, 37, 38, 39, 40, 41, 42, 43, 44, 45, 46] rfl (by decide +kernel)
set_option maxRecDepth 20000 in
theorem gX12_pathLength_X12_isStep : GoodIn wsX12_pathLength (wsV RX12 304 RX12 yX12_isStep wsX12_isStep) := goodIn_app (goodIn_of _ (by decide +kernel)) ggX12_pathLength_X12_isStep
set_option maxRecDepth 20000 in
theorem ggX12_pathLength_X12_fails : GoodIn wsX12_pathLength wsX12_fails := goodIn_r _ [14, 15, 28, 29, 30, 31, 32, 33, 34, 35, 36, 37, 38, 39, 40, 41, 42, 43, 44, 45, 46] rfl (by decide +kernel)
set_option maxRecDepth 20000 in
theorem gX12_pathLength_X12_fails : GoodIn wsX12_pathLength (wsV RX12 167 RX12 yX12_fails wsX12_fails) := goodIn_app (goodIn_of _ (by decide +kernel)) ggX12_pathLength_X12_fails
set_option maxRecDepth 20000 in
theorem ggX12_pathLength_X12_computePaths : GoodIn wsX12_pathLength wsX12_computePaths := goodIn_r _ [19, 7, 1, 20, 21, 22, 5, 23, 24, 25, 26, 27, 28, 29, 30, 31, 32, 33, 34, 35, 36, 37, 38, 39, 40, 41, 42, 43, 44, 45, 46] rfl (by decide +kernel)
set_option maxRecDepth 20000 in
theorem gX12_pathLength_X12_computePaths : GoodIn wsX12_pathLength (wsV RX12 139 RX12 yX12_computePaths wsX12_computePaths) := goodIn_app (goodIn_of _ (by decide +kernel)) ggX12_pathLength_X12_computePaths
theorem dX12_pathLength_0 : decode cX12_pathLength 0 = .ok (.aload_n 0, 1) := by decide +kernel
theorem dX12_pathLength_1 : decode cX12_pathLength 1 = .ok (.aload_n 0, 1) := by decide +kernel
theorem dX12_pathLength_2 : decode cX12_pathLength 2 = .ok (.iload_n 1, 1) := by decide +kernel
theorem dX12_pathLength_3 : decode cX12_pathLength 3 = .ok (.invokevirtual 304, 3) := by decide +kernel
theorem dX12_pathLength_6 : decode cX12_pathLength 6 = .ok (.ifCond .ne 7, 3) := by decide +kernel
theorem dX12_pathLength_9 : decode cX12_pathLength 9 = .ok (.iconst 1, 1) := by decide +kernel
theorem dX12_pathLength_10 : decode cX12_pathLength 10 = .ok (.goto 4, 3) := by decide +kernel
theorem dX12_pathLength_13 : decode cX12_pathLength 13 = .ok (.iconst 0, 1) := by decide +kernel
theorem dX12_pathLength_14 : decode cX12_pathLength 14 = .ok (.iconst 0, 1) := by decide +kernel
theorem dX12_pathLength_15 : decode cX12_pathLength 15 = .ok (.iconst 0, 1) := by decide +kernel
theorem dX12_pathLength_16 : decode cX12_pathLength 16 = .ok (.invokevirtual 167, 3) := by decide +kernel
theorem dX12_pathLength_19 : decode cX12_pathLength 19 = .ok (.ifCond .eq 5, 3) := by decide +kernel
theorem dX12_pathLength_22 : decode cX12_pathLength 22 = .ok (.iconst 0, 1) := by decide +kernel
theorem dX12_pathLength_23 : decode cX12_pathLength 23 = .ok (.ireturn, 1) := by decide +kernel
theorem dX12_pathLength_24 : decode cX12_pathLength 24 = .ok (.aload_n 0, 1) := by decide +kernel
theorem dX12_pathLength_25 : decode cX12_pathLength 25 = .ok (.invokevirtual 139, 3) := by decide +kernel
theorem dX12_pathLength_28 : decode cX12_pathLength 28 = .ok (.aload_n 0, 1) := by decide +kernel
theorem dX12_pathLength_29 : decode cX12_pathLength 29 = .ok (.getfield 42, 3) := by decide +kernel
theorem dX12_pathLength_32 : decode cX12_pathLength 32 = .ok (.iload_n 1, 1) := by decide +kernel
theorem dX12_pathLength_33 : decode cX12_pathLength 33 = .ok (.iaload, 1) := by decide +kernel
theorem dX12_pathLength_34 : decode cX12_pathLength 34 = .ok (.ireturn, 1) := by decide +kernel
set_option maxRecDepth 20000 in
theorem ggX12_nameLetter_X12_isStep : GoodIn wsX12_nameLetter wsX12_isStep := goodIn_r _ [5, 6, 7, 8, 4, 9, 19, 20, 21, 22, 23, 24, 25, 26, 27, 28, 29, 30, 31, 32, 33, 34, 35, 36, 37] rfl (by decide +kernel)
set_option maxRecDepth 20000 in
theorem gX12_nameLetter_X12_isStep : GoodIn wsX12_nameLetter (wsV RX12 304 RX12 yX12_isStep wsX12_isStep) := goodIn_app (goodIn_of _ (by decide +kernel)) ggX12_nameLetter_X12_isStep
set_option maxRecDepth 20000 in
theorem ggX12_nameLetter_X12_of : GoodIn wsX12_nameLetter wsX12_of := goodIn_r _ [13, 6, 19, 20, 21, 22, 23, 24, 25, 26, 27, 28, 29, 30, 31, 32, 33, 34, 35, 36, 37] rfl (by decide +kernel)
set_option maxRecDepth 20000 in
theorem gX12_nameLetter_X12_of : GoodIn wsX12_nameLetter (wsV RX12 95 RX12 yX12_of wsX12_of) := goodIn_app (goodIn_of _ (by decide +kernel)) ggX12_nameLetter_X12_of
set_option maxRecDepth 20000 in
theorem ggX12_nameLetter_X12_in : GoodIn wsX12_nameLetter wsX12_in := goodIn_r _ [9] rfl (by decide +kernel)
set_option maxRecDepth 20000 in
theorem gX12_nameLetter_X12_in : GoodIn wsX12_nameLetter (va_wsS RX12 87 yX12_in wsX12_in) := goodIn_app (goodIn_of _ (by decide +kernel)) ggX12_nameLetter_X12_in
set_option maxRecDepth 20000 in
theorem ggX12_nameLetter_X12_fails : GoodIn wsX12_nameLetter wsX12_fails := goodIn_r _ [17, 18, 19, 20, 21, 22, 23, 24, 25, 26, 27, 28, 29, 30, 31, 32, 33, 34, 35, 36, 37] rfl (by decide +kernel)
set_option maxRecDepth 20000 in
theorem gX12_nameLetter_X12_fails : GoodIn wsX12_nameLetter (wsV RX12 167 RX12 yX12_fails wsX12_fails) := goodIn_app (goodIn_of _ (by decide +kernel)) ggX12_nameLetter_X12_fails
theorem dX12_nameLetter_0 : decode cX12_nameLetter 0 = .ok (.aload_n 0, 1) := by decide +kernel
theorem dX12_nameLetter_1 : decode cX12_nameLetter 1 = .ok (.aload_n 0, 1) := by decide +kernel
theorem dX12_nameLetter_2 : decode cX12_nameLetter 2 = .ok (.iload_n 1, 1) := by decide +kernel
theorem dX12_nameLetter_3 : decode cX12_nameLetter 3 = .ok (.invokevirtual 304, 3) := by decide +kernel
theorem dX12_nameLetter_6 : decode cX12_nameLetter 6 = .ok (.ifCond .eq 31, 3) := by decide +kernel
theorem dX12_nameLetter_9 : decode cX12_nameLetter 9 = .ok (.iload_n 2, 1) := by decide +kernel
theorem dX12_nameLetter_10 : decode cX12_nameLetter 10 = .ok (.iconst 0, 1) := by decide +kernel
theorem dX12_nameLetter_11 : decode cX12_nameLetter 11 = .ok (.aload_n 0, 1) := by decide +kernel
theorem dX12_nameLetter_12 : decode cX12_nameLetter 12 = .ok (.aload_n 0, 1) := by decide +kernel
theorem dX12_nameLetter_13 : decode cX12_nameLetter 13 = .ok (.iload_n 1, 1) := by decide +kernel
theorem dX12_nameLetter_14 : decode cX12_nameLetter 14 = .ok (.invokevirtual 304, 3) := by decide +kernel
theorem dX12_nameLetter_17 : decode cX12_nameLetter 17 = .ok (.ifCond .eq 7, 3) := by decide +kernel
theorem dX12_nameLetter_20 : decode cX12_nameLetter 20 = .ok (.iload_n 1, 1) := by decide +kernel
theorem dX12_nameLetter_21 : decode cX12_nameLetter 21 = .ok (.goto 4, 3) := by decide +kernel
theorem dX12_nameLetter_24 : decode cX12_nameLetter 24 = .ok (.iconst 0, 1) := by decide +kernel
theorem dX12_nameLetter_25 : decode cX12_nameLetter 25 = .ok (.iconst 0, 1) := by decide +kernel
theorem dX12_nameLetter_26 : decode cX12_nameLetter 26 = .ok (.invokevirtual 95, 3) := by decide +kernel
theorem dX12_nameLetter_29 : decode cX12_nameLetter 29 = .ok (.iconst 1, 1) := by decide +kernel
theorem dX12_nameLetter_30 : decode cX12_nameLetter 30 = .ok (.isub, 1) := by decide +kernel
theorem dX12_nameLetter_31 : decode cX12_nameLetter 31 = .ok (.invokestatic 87, 3) := by decide +kernel
theorem dX12_nameLetter_34 : decode cX12_nameLetter 34 = .ok (.ifCond .ne 7, 3) := by decide +kernel
theorem dX12_nameLetter_37 : decode cX12_nameLetter 37 = .ok (.iconst 1, 1) := by decide +kernel
theorem dX12_nameLetter_38 : decode cX12_nameLetter 38 = .ok (.goto 4, 3) := by decide +kernel
theorem dX12_nameLetter_41 : decode cX12_nameLetter 41 = .ok (.iconst 0, 1) := by decide +kernel
theorem dX12_nameLetter_42 : decode cX12_nameLetter 42 = .ok (.iconst 0, 1) := by decide +kernel
theorem dX12_nameLetter_43 : decode cX12_nameLetter 43 = .ok (.iconst 0, 1) := by decide +kernel
theorem dX12_nameLetter_44 : decode cX12_nameLetter 44 = .ok (.invokevirtual 167, 3) := by decide +kernel
theorem dX12_nameLetter_47 : decode cX12_nameLetter 47 = .ok (.ifCond .eq 5, 3) := by decide +kernel
theorem dX12_nameLetter_50 : decode cX12_nameLetter 50 = .ok (.iconst 0, 1) := by decide +kernel
theorem dX12_nameLetter_51 : decode cX12_nameLetter 51 = .ok (.ireturn, 1) := by decide +kernel
theorem dX12_nameLetter_52 : decode cX12_nameLetter 52 = .ok (.aload_n 0, 1) := by decide +kernel
theorem dX12_nameLetter_53 : decode cX12_nameLetter 53 = .ok (.iload_n 1, 1) := by decide +kernel
theorem dX12_nameLetter_54 : decode cX12_nameLetter 54 = .ok (.iconst 1, 1) := by decide +kernel
theorem dX12_nameLetter_55 : decode cX12_nameLetter 55 = .ok (.iload_n 2, 1) := by decide +kernel
theorem dX12_nameLetter_56 : decode cX12_nameLetter 56 = .ok (.iadd, 1) := by decide +kernel
theorem dX12_nameLetter_57 : decode cX12_nameLetter 57 = .ok (.invokevirtual 95, 3) := by decide +kernel
theorem dX12_nameLetter_60 : decode cX12_nameLetter 60 = .ok (.ireturn, 1) := by decide +kernel
set_option maxRecDepth 20000 in
theorem ggX12_findStep_X12_stepNamed : GoodIn wsX12_findStep wsX12_stepNamed := goodIn_r _ [6, 7, 8, 9, 10, 5, 11, 12, 18, 19, 20, 21, 22, 23, 24, 25, 26, 27, 28, 29, 30, 31, 32, 33, 34, 35, 36] rfl (by decide +kernel)
set_option maxRecDepth 20000 in
theorem gX12_findStep_X12_stepNamed : GoodIn wsX12_findStep (wsV RX12 208 RX12 yX12_stepNamed wsX12_stepNamed) := goodIn_app (goodIn_of _ (by decide +kernel)) ggX12_findStep_X12_stepNamed
set_option maxRecDepth 20000 in
theorem ggX12_findStep_X12_fails : GoodIn wsX12_findStep wsX12_fails := goodIn_r _ [16, 17, 18, 19, 20, 21, 22, 23, 24, 25, 26, 27, 28, 29, 30, 31, 32, 33, 34, 35, 36] rfl (by decide +kernel)
set_option maxRecDepth 20000 in
theorem gX12_findStep_X12_fails : GoodIn wsX12_findStep (wsV RX12 167 RX12 yX12_fails wsX12_fails) := goodIn_app (goodIn_of _ (by decide +kernel)) ggX12_findStep_X12_fails
theorem dX12_findStep_0 : decode cX12_findStep 0 = .ok (.aload_n 0, 1) := by decide +kernel
theorem dX12_findStep_1 : decode cX12_findStep 1 = .ok (.iconst 0, 1) := by decide +kernel
theorem dX12_findStep_2 : decode cX12_findStep 2 = .ok (.aload_n 0, 1) := by decide +kernel
theorem dX12_findStep_3 : decode cX12_findStep 3 = .ok (.getfield 27, 3) := by decide +kernel
theorem dX12_findStep_6 : decode cX12_findStep 6 = .ok (.invokevirtual 208, 3) := by decide +kernel
theorem dX12_findStep_9 : decode cX12_findStep 9 = .ok (.istore_n 1, 1) := by decide +kernel
theorem dX12_findStep_10 : decode cX12_findStep 10 = .ok (.aload_n 0, 1) := by decide +kernel
theorem dX12_findStep_11 : decode cX12_findStep 11 = .ok (.iload_n 1, 1) := by decide +kernel
theorem dX12_findStep_12 : decode cX12_findStep 12 = .ok (.iconst (-1), 1) := by decide +kernel
theorem dX12_findStep_13 : decode cX12_findStep 13 = .ok (.if_icmp .ne 7, 3) := by decide +kernel
theorem dX12_findStep_16 : decode cX12_findStep 16 = .ok (.iconst 1, 1) := by decide +kernel
theorem dX12_findStep_17 : decode cX12_findStep 17 = .ok (.goto 4, 3) := by decide +kernel
theorem dX12_findStep_20 : decode cX12_findStep 20 = .ok (.iconst 0, 1) := by decide +kernel
theorem dX12_findStep_21 : decode cX12_findStep 21 = .ok (.iconst 0, 1) := by decide +kernel
theorem dX12_findStep_22 : decode cX12_findStep 22 = .ok (.iconst 0, 1) := by decide +kernel
theorem dX12_findStep_23 : decode cX12_findStep 23 = .ok (.invokevirtual 167, 3) := by decide +kernel
theorem dX12_findStep_26 : decode cX12_findStep 26 = .ok (.ifCond .eq 5, 3) := by decide +kernel
theorem dX12_findStep_29 : decode cX12_findStep 29 = .ok (.iconst 0, 1) := by decide +kernel
theorem dX12_findStep_30 : decode cX12_findStep 30 = .ok (.ireturn, 1) := by decide +kernel
theorem dX12_findStep_31 : decode cX12_findStep 31 = .ok (.iload_n 1, 1) := by decide +kernel
theorem dX12_findStep_32 : decode cX12_findStep 32 = .ok (.ireturn, 1) := by decide +kernel
set_option maxRecDepth 20000 in
theorem ggX12_status_X12_field : GoodIn wsX12_status wsX12_field := goodIn_r _ [5, 6, 7, 8, 4, 9, 10, 11, 12, 13, 14, 15, 16, 17, 18, 19, 20, 21, 22, 23, 24, 25, 26, 27, 28, 29, 30, 31, 32, 33, 34, 35, 36, 37, 38, 39, 40, 41] rfl (by decide +kernel)
set_option maxRecDepth 20000 in
theorem gX12_status_X12_field : GoodIn wsX12_status (wsV RX12 307 RX12 yX12_field wsX12_field) := goodIn_app (goodIn_of _ (by decide +kernel)) ggX12_status_X12_field
theorem dX12_status_0 : decode cX12_status 0 = .ok (.aload_n 0, 1) := by decide +kernel
theorem dX12_status_1 : decode cX12_status 1 = .ok (.iload_n 1, 1) := by decide +kernel
theorem dX12_status_2 : decode cX12_status 2 = .ok (.bipush 17, 2) := by decide +kernel
theorem dX12_status_4 : decode cX12_status 4 = .ok (.invokevirtual 307, 3) := by decide +kernel
theorem dX12_status_7 : decode cX12_status 7 = .ok (.ireturn, 1) := by decide +kernel
set_option maxRecDepth 20000 in
theorem ggX12_remaining_X12_field : GoodIn wsX12_remaining wsX12_field := goodIn_r _ [5, 6, 7, 8, 4, 9, 10, 11, 12, 13, 14, 15, 16, 17, 18, 19, 20, 21, 22, 23, 24, 25, 26, 27, 28, 29, 30, 31, 32, 33, 34, 35, 36, 37, 38, 39, 40, 41] rfl (by decide +kernel)
set_option maxRecDepth 20000 in
theorem gX12_remaining_X12_field : GoodIn wsX12_remaining (wsV RX12 307 RX12 yX12_field wsX12_field) := goodIn_app (goodIn_of _ (by decide +kernel)) ggX12_remaining_X12_field
theorem dX12_remaining_0 : decode cX12_remaining 0 = .ok (.aload_n 0, 1) := by decide +kernel
theorem dX12_remaining_1 : decode cX12_remaining 1 = .ok (.iload_n 1, 1) := by decide +kernel
theorem dX12_remaining_2 : decode cX12_remaining 2 = .ok (.bipush 18, 2) := by decide +kernel
theorem dX12_remaining_4 : decode cX12_remaining 4 = .ok (.invokevirtual 307, 3) := by decide +kernel
theorem dX12_remaining_7 : decode cX12_remaining 7 = .ok (.ireturn, 1) := by decide +kernel
set_option maxRecDepth 20000 in
theorem ggX12_age_X12_field : GoodIn wsX12_age wsX12_field := goodIn_r _ [5, 6, 7, 8, 4, 9, 10, 11, 12, 13, 14, 15, 16, 17, 18, 19, 20, 21, 22, 23, 24, 25, 26, 27, 28, 29, 30, 31, 32, 33, 34, 35, 36, 37, 38, 39, 40, 41] rfl (by decide +kernel)
set_option maxRecDepth 20000 in
theorem gX12_age_X12_field : GoodIn wsX12_age (wsV RX12 307 RX12 yX12_field wsX12_field) := goodIn_app (goodIn_of _ (by decide +kernel)) ggX12_age_X12_field
theorem dX12_age_0 : decode cX12_age 0 = .ok (.aload_n 0, 1) := by decide +kernel
theorem dX12_age_1 : decode cX12_age 1 = .ok (.iload_n 1, 1) := by decide +kernel
theorem dX12_age_2 : decode cX12_age 2 = .ok (.bipush 19, 2) := by decide +kernel
theorem dX12_age_4 : decode cX12_age 4 = .ok (.invokevirtual 307, 3) := by decide +kernel
theorem dX12_age_7 : decode cX12_age 7 = .ok (.ireturn, 1) := by decide +kernel
set_option maxRecDepth 20000 in
theorem ggX12_startsOf_X12_field : GoodIn wsX12_startsOf wsX12_field := goodIn_r _ [5, 6, 7, 8, 4, 9, 10, 11, 12, 13, 14, 15, 16, 17, 18, 19, 20, 21, 22, 23, 24, 25, 26, 27, 28, 29, 30, 31, 32, 33, 34, 35, 36, 37, 38, 39, 40, 41] rfl (by decide +kernel)
set_option maxRecDepth 20000 in
theorem gX12_startsOf_X12_field : GoodIn wsX12_startsOf (wsV RX12 307 RX12 yX12_field wsX12_field) := goodIn_app (goodIn_of _ (by decide +kernel)) ggX12_startsOf_X12_field
theorem dX12_startsOf_0 : decode cX12_startsOf 0 = .ok (.aload_n 0, 1) := by decide +kernel
theorem dX12_startsOf_1 : decode cX12_startsOf 1 = .ok (.iload_n 1, 1) := by decide +kernel
theorem dX12_startsOf_2 : decode cX12_startsOf 2 = .ok (.bipush 20, 2) := by decide +kernel
theorem dX12_startsOf_4 : decode cX12_startsOf 4 = .ok (.invokevirtual 307, 3) := by decide +kernel
theorem dX12_startsOf_7 : decode cX12_startsOf 7 = .ok (.ireturn, 1) := by decide +kernel
set_option maxRecDepth 20000 in
theorem ggX12_isTakenUp_X12_isStep : GoodIn wsX12_isTakenUp wsX12_isStep := goodIn_r _ [5, 6, 7, 8, 4, 9, 31, 32, 33, 34, 35, 36, 37, 38, 39, 40, 41, 42, 43, 44, 45, 46, 47, 48, 49] rfl (by decide +kernel)
set_option maxRecDepth 20000 in
theorem gX12_isTakenUp_X12_isStep : GoodIn wsX12_isTakenUp (wsV RX12 304 RX12 yX12_isStep wsX12_isStep) := goodIn_app (goodIn_of _ (by decide +kernel)) ggX12_isTakenUp_X12_isStep
set_option maxRecDepth 20000 in
theorem ggX12_isTakenUp_X12_fails : GoodIn wsX12_isTakenUp wsX12_fails := goodIn_r _ [13, 14, 31, 32, 33, 34, 35, 36, 37, 38, 39, 40, 41, 42, 43, 44, 45, 46, 47, 48, 49] rfl (by decide +kernel)
set_option maxRecDepth 20000 in
theorem gX12_isTakenUp_X12_fails : GoodIn wsX12_isTakenUp (wsV RX12 167 RX12 yX12_fails wsX12_fails) := goodIn_app (goodIn_of _ (by decide +kernel)) ggX12_isTakenUp_X12_fails
set_option maxRecDepth 20000 in
theorem ggX12_isTakenUp_X12_isTaken : GoodIn wsX12_isTakenUp wsX12_isTaken := goodIn_r _ [18, 19, 20, 21, 4, 22, 6, 23, 24, 25, 26, 27, 28, 29, 30, 31, 32, 33, 34, 35, 36, 37, 38, 39, 40, 41, 42, 43, 44, 45, 46, 47, 48, 49] rfl (by decide +kernel)
set_option maxRecDepth 20000 in
theorem gX12_isTakenUp_X12_isTaken : GoodIn wsX12_isTakenUp (wsV RX12 130 RX12 yX12_isTaken wsX12_isTaken) := goodIn_app (goodIn_of _ (by decide +kernel)) ggX12_isTakenUp_X12_isTaken
theorem dX12_isTakenUp_0 : decode cX12_isTakenUp 0 = .ok (.aload_n 0, 1) := by decide +kernel
theorem dX12_isTakenUp_1 : decode cX12_isTakenUp 1 = .ok (.aload_n 0, 1) := by decide +kernel
theorem dX12_isTakenUp_2 : decode cX12_isTakenUp 2 = .ok (.iload_n 1, 1) := by decide +kernel
theorem dX12_isTakenUp_3 : decode cX12_isTakenUp 3 = .ok (.invokevirtual 304, 3) := by decide +kernel
theorem dX12_isTakenUp_6 : decode cX12_isTakenUp 6 = .ok (.ifCond .ne 7, 3) := by decide +kernel
theorem dX12_isTakenUp_9 : decode cX12_isTakenUp 9 = .ok (.iconst 1, 1) := by decide +kernel
theorem dX12_isTakenUp_10 : decode cX12_isTakenUp 10 = .ok (.goto 4, 3) := by decide +kernel
theorem dX12_isTakenUp_13 : decode cX12_isTakenUp 13 = .ok (.iconst 0, 1) := by decide +kernel
theorem dX12_isTakenUp_14 : decode cX12_isTakenUp 14 = .ok (.iconst 0, 1) := by decide +kernel
theorem dX12_isTakenUp_15 : decode cX12_isTakenUp 15 = .ok (.iconst 0, 1) := by decide +kernel
theorem dX12_isTakenUp_16 : decode cX12_isTakenUp 16 = .ok (.invokevirtual 167, 3) := by decide +kernel
theorem dX12_isTakenUp_19 : decode cX12_isTakenUp 19 = .ok (.ifCond .eq 5, 3) := by decide +kernel
theorem dX12_isTakenUp_22 : decode cX12_isTakenUp 22 = .ok (.iconst 0, 1) := by decide +kernel
theorem dX12_isTakenUp_23 : decode cX12_isTakenUp 23 = .ok (.ireturn, 1) := by decide +kernel
theorem dX12_isTakenUp_24 : decode cX12_isTakenUp 24 = .ok (.aload_n 0, 1) := by decide +kernel
theorem dX12_isTakenUp_25 : decode cX12_isTakenUp 25 = .ok (.iload_n 1, 1) := by decide +kernel
theorem dX12_isTakenUp_26 : decode cX12_isTakenUp 26 = .ok (.invokevirtual 130, 3) := by decide +kernel
theorem dX12_isTakenUp_29 : decode cX12_isTakenUp 29 = .ok (.ireturn, 1) := by decide +kernel
set_option maxRecDepth 20000 in
theorem ggX12_readyStep_X12_queueReady : GoodIn wsX12_readyStep wsX12_queueReady := goodIn_r _ [7, 8, 9, 2, 10, 11, 12, 6, 13, 14, 15, 16, 17, 18, 19, 20, 21, 22, 23, 24, 25, 26, 27, 28, 29, 33, 34, 35, 36, 37, 38, 39, 40, 41, 42, 43, 44, 45, 46, 47, 48, 49, 50, 51] rfl (by decide +kernel)
set_option maxRecDepth 20000 in
theorem gX12_readyStep_X12_queueReady : GoodIn wsX12_readyStep (wsV RX12 152 RX12 yX12_queueReady wsX12_queueReady) := goodIn_app (goodIn_of _ (by decide +kernel)) ggX12_readyStep_X12_queueReady
set_option maxRecDepth 20000 in
theorem ggX12_readyStep_X12_in : GoodIn wsX12_readyStep wsX12_in := goodIn_r _ [32] rfl (by decide +kernel)
set_option maxRecDepth 20000 in
theorem gX12_readyStep_X12_in : GoodIn wsX12_readyStep (va_wsS RX12 87 yX12_in wsX12_in) := goodIn_app (goodIn_of _ (by decide +kernel)) ggX12_readyStep_X12_in
theorem dX12_readyStep_0 : decode cX12_readyStep 0 = .ok (.aload_n 0, 1) := by decide +kernel
theorem dX12_readyStep_1 : decode cX12_readyStep 1 = .ok (.iconst 0, 1) := by decide +kernel
theorem dX12_readyStep_2 : decode cX12_readyStep 2 = .ok (.putfield 1, 3) := by decide +kernel
theorem dX12_readyStep_5 : decode cX12_readyStep 5 = .ok (.iload_n 1, 1) := by decide +kernel
theorem dX12_readyStep_6 : decode cX12_readyStep 6 = .ok (.iconst 0, 1) := by decide +kernel
theorem dX12_readyStep_7 : decode cX12_readyStep 7 = .ok (.aload_n 0, 1) := by decide +kernel
theorem dX12_readyStep_8 : decode cX12_readyStep 8 = .ok (.invokevirtual 152, 3) := by decide +kernel
theorem dX12_readyStep_11 : decode cX12_readyStep 11 = .ok (.iconst 1, 1) := by decide +kernel
theorem dX12_readyStep_12 : decode cX12_readyStep 12 = .ok (.isub, 1) := by decide +kernel
theorem dX12_readyStep_13 : decode cX12_readyStep 13 = .ok (.invokestatic 87, 3) := by decide +kernel
theorem dX12_readyStep_16 : decode cX12_readyStep 16 = .ok (.ifCond .eq 12, 3) := by decide +kernel
theorem dX12_readyStep_19 : decode cX12_readyStep 19 = .ok (.aload_n 0, 1) := by decide +kernel
theorem dX12_readyStep_20 : decode cX12_readyStep 20 = .ok (.getfield 51, 3) := by decide +kernel
theorem dX12_readyStep_23 : decode cX12_readyStep 23 = .ok (.iload_n 1, 1) := by decide +kernel
theorem dX12_readyStep_24 : decode cX12_readyStep 24 = .ok (.iaload, 1) := by decide +kernel
theorem dX12_readyStep_25 : decode cX12_readyStep 25 = .ok (.goto 4, 3) := by decide +kernel
theorem dX12_readyStep_28 : decode cX12_readyStep 28 = .ok (.iconst (-1), 1) := by decide +kernel
theorem dX12_readyStep_29 : decode cX12_readyStep 29 = .ok (.ireturn, 1) := by decide +kernel
set_option maxRecDepth 20000 in
theorem ggX12_reasonFor_X12_of : GoodIn wsX12_reasonFor wsX12_of := goodIn_r _ [5, 6, 43, 44, 45, 46, 47, 48, 49, 50, 51, 52, 53, 54, 55, 56, 57, 58, 59, 60, 61] rfl (by decide +kernel)
set_option maxRecDepth 20000 in
theorem gX12_reasonFor_X12_of : GoodIn wsX12_reasonFor (wsV RX12 95 RX12 yX12_of wsX12_of) := goodIn_app (goodIn_of _ (by decide +kernel)) ggX12_reasonFor_X12_of
set_option maxRecDepth 20000 in
theorem ggX12_reasonFor_X12_firstOpen : GoodIn wsX12_reasonFor wsX12_firstOpen := goodIn_r _ [10, 1, 2, 3, 4, 5, 6, 43, 44, 45, 46, 47, 48, 49, 50, 51, 52, 53, 54, 55, 56, 57, 58, 59, 60, 61] rfl (by decide +kernel)
set_option maxRecDepth 20000 in
theorem gX12_reasonFor_X12_firstOpen : GoodIn wsX12_reasonFor (wsV RX12 106 RX12 yX12_firstOpen wsX12_firstOpen) := goodIn_app (goodIn_of _ (by decide +kernel)) ggX12_reasonFor_X12_firstOpen
set_option maxRecDepth 20000 in
theorem ggX12_reasonFor_X12_hasPan : GoodIn wsX12_reasonFor wsX12_hasPan := goodIn_r _ [14, 1, 2, 3, 4, 5, 6, 15, 16, 17, 18, 19, 20, 21, 22, 23, 24, 25, 26, 27, 28, 29, 30, 31, 32, 33, 34, 43, 44, 45, 46, 47, 48, 49, 50, 51, 52, 53, 54, 55, 56, 57, 58, 59, 60, 61] rfl (by decide +kernel)
set_option maxRecDepth 20000 in
theorem gX12_reasonFor_X12_hasPan : GoodIn wsX12_reasonFor (wsV RX12 136 RX12 yX12_hasPan wsX12_hasPan) := goodIn_app (goodIn_of _ (by decide +kernel)) ggX12_reasonFor_X12_hasPan
set_option maxRecDepth 20000 in
theorem ggX12_reasonFor_X12_hasCook : GoodIn wsX12_reasonFor wsX12_hasCook := goodIn_r _ [38, 6, 39, 40, 41, 4, 42, 1, 2, 3, 5, 43, 44, 45, 46, 47, 48, 49, 50, 51, 52, 53, 54, 55, 56, 57, 58, 59, 60, 61] rfl (by decide +kernel)
set_option maxRecDepth 20000 in
theorem gX12_reasonFor_X12_hasCook : GoodIn wsX12_reasonFor (wsV RX12 133 RX12 yX12_hasCook wsX12_hasCook) := goodIn_app (goodIn_of _ (by decide +kernel)) ggX12_reasonFor_X12_hasCook
theorem dX12_reasonFor_0 : decode cX12_reasonFor 0 = .ok (.aload_n 0, 1) := by decide +kernel
theorem dX12_reasonFor_1 : decode cX12_reasonFor 1 = .ok (.iload_n 1, 1) := by decide +kernel
theorem dX12_reasonFor_2 : decode cX12_reasonFor 2 = .ok (.bipush 17, 2) := by decide +kernel
theorem dX12_reasonFor_4 : decode cX12_reasonFor 4 = .ok (.invokevirtual 95, 3) := by decide +kernel
theorem dX12_reasonFor_7 : decode cX12_reasonFor 7 = .ok (.iconst 1, 1) := by decide +kernel
theorem dX12_reasonFor_8 : decode cX12_reasonFor 8 = .ok (.if_icmp .ne 5, 3) := by decide +kernel
theorem dX12_reasonFor_11 : decode cX12_reasonFor 11 = .ok (.iconst 0, 1) := by decide +kernel
theorem dX12_reasonFor_12 : decode cX12_reasonFor 12 = .ok (.ireturn, 1) := by decide +kernel
theorem dX12_reasonFor_13 : decode cX12_reasonFor 13 = .ok (.aload_n 0, 1) := by decide +kernel
theorem dX12_reasonFor_14 : decode cX12_reasonFor 14 = .ok (.iload_n 1, 1) := by decide +kernel
theorem dX12_reasonFor_15 : decode cX12_reasonFor 15 = .ok (.bipush 17, 2) := by decide +kernel
theorem dX12_reasonFor_17 : decode cX12_reasonFor 17 = .ok (.invokevirtual 95, 3) := by decide +kernel
theorem dX12_reasonFor_20 : decode cX12_reasonFor 20 = .ok (.iconst 2, 1) := by decide +kernel
theorem dX12_reasonFor_21 : decode cX12_reasonFor 21 = .ok (.if_icmp .ne 5, 3) := by decide +kernel
theorem dX12_reasonFor_24 : decode cX12_reasonFor 24 = .ok (.iconst 1, 1) := by decide +kernel
theorem dX12_reasonFor_25 : decode cX12_reasonFor 25 = .ok (.ireturn, 1) := by decide +kernel
theorem dX12_reasonFor_26 : decode cX12_reasonFor 26 = .ok (.aload_n 0, 1) := by decide +kernel
theorem dX12_reasonFor_27 : decode cX12_reasonFor 27 = .ok (.iload_n 1, 1) := by decide +kernel
theorem dX12_reasonFor_28 : decode cX12_reasonFor 28 = .ok (.invokevirtual 106, 3) := by decide +kernel
theorem dX12_reasonFor_31 : decode cX12_reasonFor 31 = .ok (.iconst (-1), 1) := by decide +kernel
theorem dX12_reasonFor_32 : decode cX12_reasonFor 32 = .ok (.if_icmp .eq 5, 3) := by decide +kernel
theorem dX12_reasonFor_35 : decode cX12_reasonFor 35 = .ok (.iconst 2, 1) := by decide +kernel
theorem dX12_reasonFor_36 : decode cX12_reasonFor 36 = .ok (.ireturn, 1) := by decide +kernel
theorem dX12_reasonFor_37 : decode cX12_reasonFor 37 = .ok (.aload_n 0, 1) := by decide +kernel
theorem dX12_reasonFor_38 : decode cX12_reasonFor 38 = .ok (.iload_n 1, 1) := by decide +kernel
theorem dX12_reasonFor_39 : decode cX12_reasonFor 39 = .ok (.invokevirtual 136, 3) := by decide +kernel
theorem dX12_reasonFor_42 : decode cX12_reasonFor 42 = .ok (.ifCond .ne 5, 3) := by decide +kernel
theorem dX12_reasonFor_45 : decode cX12_reasonFor 45 = .ok (.iconst 3, 1) := by decide +kernel
theorem dX12_reasonFor_46 : decode cX12_reasonFor 46 = .ok (.ireturn, 1) := by decide +kernel
theorem dX12_reasonFor_47 : decode cX12_reasonFor 47 = .ok (.aload_n 0, 1) := by decide +kernel
theorem dX12_reasonFor_48 : decode cX12_reasonFor 48 = .ok (.iload_n 1, 1) := by decide +kernel
theorem dX12_reasonFor_49 : decode cX12_reasonFor 49 = .ok (.invokevirtual 133, 3) := by decide +kernel
theorem dX12_reasonFor_52 : decode cX12_reasonFor 52 = .ok (.ifCond .eq 7, 3) := by decide +kernel
theorem dX12_reasonFor_55 : decode cX12_reasonFor 55 = .ok (.iconst 5, 1) := by decide +kernel
theorem dX12_reasonFor_56 : decode cX12_reasonFor 56 = .ok (.goto 4, 3) := by decide +kernel
theorem dX12_reasonFor_59 : decode cX12_reasonFor 59 = .ok (.iconst 4, 1) := by decide +kernel
theorem dX12_reasonFor_60 : decode cX12_reasonFor 60 = .ok (.ireturn, 1) := by decide +kernel
set_option maxRecDepth 20000 in
theorem ggX12_whyNotRunning_X12_isStep : GoodIn wsX12_whyNotRunning wsX12_isStep := goodIn_r _ [5, 6, 7, 8, 4, 9, 59, 60, 61, 62, 63, 64, 65, 66, 67, 68, 69, 70, 71, 72, 73, 74, 75, 76, 77] rfl (by decide +kernel)
set_option maxRecDepth 20000 in
theorem gX12_whyNotRunning_X12_isStep : GoodIn wsX12_whyNotRunning (wsV RX12 304 RX12 yX12_isStep wsX12_isStep) := goodIn_app (goodIn_of _ (by decide +kernel)) ggX12_whyNotRunning_X12_isStep
set_option maxRecDepth 20000 in
theorem ggX12_whyNotRunning_X12_fails : GoodIn wsX12_whyNotRunning wsX12_fails := goodIn_r _ [13, 14, 59, 60, 61, 62, 63, 64, 65, 66, 67, 68, 69, 70, 71, 72, 73, 74, 75, 76, 77] rfl (by decide +kernel)
set_option maxRecDepth 20000 in
theorem gX12_whyNotRunning_X12_fails : GoodIn wsX12_whyNotRunning (wsV RX12 167 RX12 yX12_fails wsX12_fails) := goodIn_app (goodIn_of _ (by decide +kernel)) ggX12_whyNotRunning_X12_fails
set_option maxRecDepth 20000 in
theorem ggX12_whyNotRunning_X12_reasonFor : GoodIn wsX12_whyNotRunning wsX12_reasonFor := goodIn_r _ [18, 19, 20, 21, 4, 22, 6, 23, 24, 25, 26, 27, 28, 29, 30, 31, 32, 33, 34, 35, 36, 37, 38, 39, 40, 41, 42, 43, 44, 45, 46, 47, 48, 49, 50, 51, 52, 53, 54, 55, 56, 57, 58, 59, 60, 61, 62, 63, 64, 65, 66, 67, 68, 69, 70, 71, 72, 73, 74, 75, 76, 77] rfl (by decide +kernel)
set_option maxRecDepth 20000 in
theorem gX12_whyNotRunning_X12_reasonFor : GoodIn wsX12_whyNotRunning (wsV RX12 313 RX12 yX12_reasonFor wsX12_reasonFor) := goodIn_app (goodIn_of _ (by decide +kernel)) ggX12_whyNotRunning_X12_reasonFor
theorem dX12_whyNotRunning_0 : decode cX12_whyNotRunning 0 = .ok (.aload_n 0, 1) := by decide +kernel
theorem dX12_whyNotRunning_1 : decode cX12_whyNotRunning 1 = .ok (.aload_n 0, 1) := by decide +kernel
theorem dX12_whyNotRunning_2 : decode cX12_whyNotRunning 2 = .ok (.iload_n 1, 1) := by decide +kernel
theorem dX12_whyNotRunning_3 : decode cX12_whyNotRunning 3 = .ok (.invokevirtual 304, 3) := by decide +kernel
theorem dX12_whyNotRunning_6 : decode cX12_whyNotRunning 6 = .ok (.ifCond .ne 7, 3) := by decide +kernel
theorem dX12_whyNotRunning_9 : decode cX12_whyNotRunning 9 = .ok (.iconst 1, 1) := by decide +kernel
theorem dX12_whyNotRunning_10 : decode cX12_whyNotRunning 10 = .ok (.goto 4, 3) := by decide +kernel
theorem dX12_whyNotRunning_13 : decode cX12_whyNotRunning 13 = .ok (.iconst 0, 1) := by decide +kernel
theorem dX12_whyNotRunning_14 : decode cX12_whyNotRunning 14 = .ok (.iconst 0, 1) := by decide +kernel
theorem dX12_whyNotRunning_15 : decode cX12_whyNotRunning 15 = .ok (.iconst 0, 1) := by decide +kernel
theorem dX12_whyNotRunning_16 : decode cX12_whyNotRunning 16 = .ok (.invokevirtual 167, 3) := by decide +kernel
theorem dX12_whyNotRunning_19 : decode cX12_whyNotRunning 19 = .ok (.ifCond .eq 5, 3) := by decide +kernel
theorem dX12_whyNotRunning_22 : decode cX12_whyNotRunning 22 = .ok (.iconst 0, 1) := by decide +kernel
theorem dX12_whyNotRunning_23 : decode cX12_whyNotRunning 23 = .ok (.ireturn, 1) := by decide +kernel
theorem dX12_whyNotRunning_24 : decode cX12_whyNotRunning 24 = .ok (.aload_n 0, 1) := by decide +kernel
theorem dX12_whyNotRunning_25 : decode cX12_whyNotRunning 25 = .ok (.iload_n 1, 1) := by decide +kernel
theorem dX12_whyNotRunning_26 : decode cX12_whyNotRunning 26 = .ok (.invokevirtual 313, 3) := by decide +kernel
theorem dX12_whyNotRunning_29 : decode cX12_whyNotRunning 29 = .ok (.ireturn, 1) := by decide +kernel
set_option maxRecDepth 20000 in
theorem ggX12_blocker_X12_reasonFor : GoodIn wsX12_blocker wsX12_reasonFor := goodIn_r _ [6, 7, 8, 9, 5, 10, 1, 11, 12, 13, 14, 15, 16, 17, 18, 19, 20, 21, 22, 23, 24, 25, 26, 27, 28, 29, 30, 31, 32, 33, 34, 35, 36, 37, 38, 39, 40, 41, 42, 43, 44, 45, 46, 47, 48, 49, 50, 51, 52, 53, 54, 55, 56, 57, 58, 59, 60, 61, 62, 63, 64, 65] rfl (by decide +kernel)
set_option maxRecDepth 20000 in
theorem gX12_blocker_X12_reasonFor : GoodIn wsX12_blocker (wsV RX12 313 RX12 yX12_reasonFor wsX12_reasonFor) := goodIn_app (goodIn_of _ (by decide +kernel)) ggX12_blocker_X12_reasonFor
set_option maxRecDepth 20000 in
theorem ggX12_blocker_X12_firstOpen : GoodIn wsX12_blocker wsX12_firstOpen := goodIn_r _ [14, 7, 8, 9, 5, 10, 1, 47, 48, 49, 50, 51, 52, 53, 54, 55, 56, 57, 58, 59, 60, 61, 62, 63, 64, 65] rfl (by decide +kernel)
set_option maxRecDepth 20000 in
theorem gX12_blocker_X12_firstOpen : GoodIn wsX12_blocker (wsV RX12 106 RX12 yX12_firstOpen wsX12_firstOpen) := goodIn_app (goodIn_of _ (by decide +kernel)) ggX12_blocker_X12_firstOpen
set_option maxRecDepth 20000 in
theorem ggX12_blocker_X12_of : GoodIn wsX12_blocker wsX12_of := goodIn_r _ [10, 1, 47, 48, 49, 50, 51, 52, 53, 54, 55, 56, 57, 58, 59, 60, 61, 62, 63, 64, 65] rfl (by decide +kernel)
set_option maxRecDepth 20000 in
theorem gX12_blocker_X12_of : GoodIn wsX12_blocker (wsV RX12 95 RX12 yX12_of wsX12_of) := goodIn_app (goodIn_of _ (by decide +kernel)) ggX12_blocker_X12_of
set_option maxRecDepth 20000 in
theorem ggX12_blocker_X12_occupies : GoodIn wsX12_blocker wsX12_occupies := goodIn_r _ [26, 7, 8, 9, 5, 10, 1, 27, 28, 29, 30, 31, 32, 33, 34, 47, 48, 49, 50, 51, 52, 53, 54, 55, 56, 57, 58, 59, 60, 61, 62, 63, 64, 65] rfl (by decide +kernel)
set_option maxRecDepth 20000 in
theorem gX12_blocker_X12_occupies : GoodIn wsX12_blocker (wsV RX12 110 RX12 yX12_occupies wsX12_occupies) := goodIn_app (goodIn_of _ (by decide +kernel)) ggX12_blocker_X12_occupies
set_option maxRecDepth 20000 in
theorem ggX12_blocker_X12_isCooked : GoodIn wsX12_blocker wsX12_isCooked := goodIn_r _ [46, 7, 8, 9, 5, 10, 1, 47, 48, 49, 50, 51, 52, 53, 54, 55, 56, 57, 58, 59, 60, 61, 62, 63, 64, 65] rfl (by decide +kernel)
set_option maxRecDepth 20000 in
theorem gX12_blocker_X12_isCooked : GoodIn wsX12_blocker (wsV RX12 119 RX12 yX12_isCooked wsX12_isCooked) := goodIn_app (goodIn_of _ (by decide +kernel)) ggX12_blocker_X12_isCooked
theorem dX12_blocker_0 : decode cX12_blocker 0 = .ok (.aload_n 0, 1) := by decide +kernel
theorem dX12_blocker_1 : decode cX12_blocker 1 = .ok (.iload_n 1, 1) := by decide +kernel
theorem dX12_blocker_2 : decode cX12_blocker 2 = .ok (.invokevirtual 313, 3) := by decide +kernel
theorem dX12_blocker_5 : decode cX12_blocker 5 = .ok (.istore_n 2, 1) := by decide +kernel
theorem dX12_blocker_6 : decode cX12_blocker 6 = .ok (.iload_n 2, 1) := by decide +kernel
theorem dX12_blocker_7 : decode cX12_blocker 7 = .ok (.iconst 2, 1) := by decide +kernel
theorem dX12_blocker_8 : decode cX12_blocker 8 = .ok (.if_icmp .ne 9, 3) := by decide +kernel
theorem dX12_blocker_11 : decode cX12_blocker 11 = .ok (.aload_n 0, 1) := by decide +kernel
theorem dX12_blocker_12 : decode cX12_blocker 12 = .ok (.iload_n 1, 1) := by decide +kernel
theorem dX12_blocker_13 : decode cX12_blocker 13 = .ok (.invokevirtual 106, 3) := by decide +kernel
theorem dX12_blocker_16 : decode cX12_blocker 16 = .ok (.ireturn, 1) := by decide +kernel
theorem dX12_blocker_17 : decode cX12_blocker 17 = .ok (.iconst 0, 1) := by decide +kernel
theorem dX12_blocker_18 : decode cX12_blocker 18 = .ok (.istore_n 3, 1) := by decide +kernel
theorem dX12_blocker_19 : decode cX12_blocker 19 = .ok (.iload_n 3, 1) := by decide +kernel
theorem dX12_blocker_20 : decode cX12_blocker 20 = .ok (.aload_n 0, 1) := by decide +kernel
theorem dX12_blocker_21 : decode cX12_blocker 21 = .ok (.getfield 13, 3) := by decide +kernel
theorem dX12_blocker_24 : decode cX12_blocker 24 = .ok (.bipush 13, 2) := by decide +kernel
theorem dX12_blocker_26 : decode cX12_blocker 26 = .ok (.iaload, 1) := by decide +kernel
theorem dX12_blocker_27 : decode cX12_blocker 27 = .ok (.if_icmp .ge 44, 3) := by decide +kernel
theorem dX12_blocker_30 : decode cX12_blocker 30 = .ok (.iload_n 2, 1) := by decide +kernel
theorem dX12_blocker_31 : decode cX12_blocker 31 = .ok (.iconst 3, 1) := by decide +kernel
theorem dX12_blocker_32 : decode cX12_blocker 32 = .ok (.if_icmp .ne 18, 3) := by decide +kernel
theorem dX12_blocker_35 : decode cX12_blocker 35 = .ok (.aload_n 0, 1) := by decide +kernel
theorem dX12_blocker_36 : decode cX12_blocker 36 = .ok (.iload_n 3, 1) := by decide +kernel
theorem dX12_blocker_37 : decode cX12_blocker 37 = .ok (.aload_n 0, 1) := by decide +kernel
theorem dX12_blocker_38 : decode cX12_blocker 38 = .ok (.iload_n 1, 1) := by decide +kernel
theorem dX12_blocker_39 : decode cX12_blocker 39 = .ok (.bipush 9, 2) := by decide +kernel
theorem dX12_blocker_41 : decode cX12_blocker 41 = .ok (.invokevirtual 95, 3) := by decide +kernel
theorem dX12_blocker_44 : decode cX12_blocker 44 = .ok (.invokevirtual 110, 3) := by decide +kernel
theorem dX12_blocker_47 : decode cX12_blocker 47 = .ok (.ifCond .ne 16, 3) := by decide +kernel
theorem dX12_blocker_50 : decode cX12_blocker 50 = .ok (.iload_n 2, 1) := by decide +kernel
theorem dX12_blocker_51 : decode cX12_blocker 51 = .ok (.iconst 4, 1) := by decide +kernel
theorem dX12_blocker_52 : decode cX12_blocker 52 = .ok (.if_icmp .ne 13, 3) := by decide +kernel
theorem dX12_blocker_55 : decode cX12_blocker 55 = .ok (.aload_n 0, 1) := by decide +kernel
theorem dX12_blocker_56 : decode cX12_blocker 56 = .ok (.iload_n 3, 1) := by decide +kernel
theorem dX12_blocker_57 : decode cX12_blocker 57 = .ok (.invokevirtual 119, 3) := by decide +kernel
theorem dX12_blocker_60 : decode cX12_blocker 60 = .ok (.ifCond .eq 5, 3) := by decide +kernel
theorem dX12_blocker_63 : decode cX12_blocker 63 = .ok (.iload_n 3, 1) := by decide +kernel
theorem dX12_blocker_64 : decode cX12_blocker 64 = .ok (.ireturn, 1) := by decide +kernel
theorem dX12_blocker_65 : decode cX12_blocker 65 = .ok (.iinc 3 1, 3) := by decide +kernel
theorem dX12_blocker_68 : decode cX12_blocker 68 = .ok (.goto (-49), 3) := by decide +kernel
theorem dX12_blocker_71 : decode cX12_blocker 71 = .ok (.iconst (-1), 1) := by decide +kernel
theorem dX12_blocker_72 : decode cX12_blocker 72 = .ok (.ireturn, 1) := by decide +kernel
set_option maxRecDepth 20000 in
theorem ggX12_blockingStep_X12_isStep : GoodIn wsX12_blockingStep wsX12_isStep := goodIn_r _ [5, 6, 7, 8, 4, 9, 63, 64, 65, 66, 67, 68, 69, 70, 71, 72, 73, 74, 75, 76, 77, 78, 79, 80, 81] rfl (by decide +kernel)
set_option maxRecDepth 20000 in
theorem gX12_blockingStep_X12_isStep : GoodIn wsX12_blockingStep (wsV RX12 304 RX12 yX12_isStep wsX12_isStep) := goodIn_app (goodIn_of _ (by decide +kernel)) ggX12_blockingStep_X12_isStep
set_option maxRecDepth 20000 in
theorem ggX12_blockingStep_X12_fails : GoodIn wsX12_blockingStep wsX12_fails := goodIn_r _ [13, 14, 63, 64, 65, 66, 67, 68, 69, 70, 71, 72, 73, 74, 75, 76, 77, 78, 79, 80, 81] rfl (by decide +kernel)
set_option maxRecDepth 20000 in
theorem gX12_blockingStep_X12_fails : GoodIn wsX12_blockingStep (wsV RX12 167 RX12 yX12_fails wsX12_fails) := goodIn_app (goodIn_of _ (by decide +kernel)) ggX12_blockingStep_X12_fails
set_option maxRecDepth 20000 in
theorem ggX12_blockingStep_X12_blocker : GoodIn wsX12_blockingStep wsX12_blocker := goodIn_r _ [18, 6, 19, 20, 21, 4, 22, 23, 24, 25, 26, 27, 28, 29, 30, 31, 32, 33, 34, 35, 36, 37, 38, 39, 40, 41, 42, 43, 44, 45, 46, 47, 48, 49, 50, 51, 52, 53, 54, 55, 56, 57, 58, 59, 60, 61, 62, 63, 64, 65, 66, 67, 68, 69, 70, 71, 72, 73, 74, 75, 76, 77, 78, 79, 80, 81] rfl (by decide +kernel)
set_option maxRecDepth 20000 in
theorem gX12_blockingStep_X12_blocker : GoodIn wsX12_blockingStep (wsV RX12 316 RX12 yX12_blocker wsX12_blocker) := goodIn_app (goodIn_of _ (by decide +kernel)) ggX12_blockingStep_X12_blocker
theorem dX12_blockingStep_0 : decode cX12_blockingStep 0 = .ok (.aload_n 0, 1) := by decide +kernel
theorem dX12_blockingStep_1 : decode cX12_blockingStep 1 = .ok (.aload_n 0, 1) := by decide +kernel
theorem dX12_blockingStep_2 : decode cX12_blockingStep 2 = .ok (.iload_n 1, 1) := by decide +kernel
theorem dX12_blockingStep_3 : decode cX12_blockingStep 3 = .ok (.invokevirtual 304, 3) := by decide +kernel
theorem dX12_blockingStep_6 : decode cX12_blockingStep 6 = .ok (.ifCond .ne 7, 3) := by decide +kernel
theorem dX12_blockingStep_9 : decode cX12_blockingStep 9 = .ok (.iconst 1, 1) := by decide +kernel
theorem dX12_blockingStep_10 : decode cX12_blockingStep 10 = .ok (.goto 4, 3) := by decide +kernel
theorem dX12_blockingStep_13 : decode cX12_blockingStep 13 = .ok (.iconst 0, 1) := by decide +kernel
theorem dX12_blockingStep_14 : decode cX12_blockingStep 14 = .ok (.iconst 0, 1) := by decide +kernel
theorem dX12_blockingStep_15 : decode cX12_blockingStep 15 = .ok (.iconst 0, 1) := by decide +kernel
theorem dX12_blockingStep_16 : decode cX12_blockingStep 16 = .ok (.invokevirtual 167, 3) := by decide +kernel
theorem dX12_blockingStep_19 : decode cX12_blockingStep 19 = .ok (.ifCond .eq 5, 3) := by decide +kernel
theorem dX12_blockingStep_22 : decode cX12_blockingStep 22 = .ok (.iconst 0, 1) := by decide +kernel
theorem dX12_blockingStep_23 : decode cX12_blockingStep 23 = .ok (.ireturn, 1) := by decide +kernel
theorem dX12_blockingStep_24 : decode cX12_blockingStep 24 = .ok (.aload_n 0, 1) := by decide +kernel
theorem dX12_blockingStep_25 : decode cX12_blockingStep 25 = .ok (.iload_n 1, 1) := by decide +kernel
theorem dX12_blockingStep_26 : decode cX12_blockingStep 26 = .ok (.invokevirtual 316, 3) := by decide +kernel
theorem dX12_blockingStep_29 : decode cX12_blockingStep 29 = .ok (.ireturn, 1) := by decide +kernel
set_option maxRecDepth 20000 in
theorem ggX12_rootBlocker_X12_isStep : GoodIn wsX12_rootBlocker wsX12_isStep := goodIn_r _ [5, 6, 7, 8, 4, 9, 59, 60, 61, 62, 63, 64, 65, 66, 67, 68, 69, 70, 71, 72, 73, 74, 75, 76, 77] rfl (by decide +kernel)
set_option maxRecDepth 20000 in
theorem gX12_rootBlocker_X12_isStep : GoodIn wsX12_rootBlocker (wsV RX12 304 RX12 yX12_isStep wsX12_isStep) := goodIn_app (goodIn_of _ (by decide +kernel)) ggX12_rootBlocker_X12_isStep
set_option maxRecDepth 20000 in
theorem ggX12_rootBlocker_X12_fails : GoodIn wsX12_rootBlocker wsX12_fails := goodIn_r _ [13, 14, 59, 60, 61, 62, 63, 64, 65, 66, 67, 68, 69, 70, 71, 72, 73, 74, 75, 76, 77] rfl (by decide +kernel)
set_option maxRecDepth 20000 in
theorem gX12_rootBlocker_X12_fails : GoodIn wsX12_rootBlocker (wsV RX12 167 RX12 yX12_fails wsX12_fails) := goodIn_app (goodIn_of _ (by decide +kernel)) ggX12_rootBlocker_X12_fails
set_option maxRecDepth 20000 in
theorem ggX12_rootBlocker_X12_reasonFor : GoodIn wsX12_rootBlocker wsX12_reasonFor := goodIn_r _ [18, 19, 20, 21, 4, 22, 6, 23, 24, 25, 26, 27, 28, 29, 30, 31, 32, 33, 34, 35, 36, 37, 38, 39, 40, 41, 42, 43, 44, 45, 46, 47, 48, 49, 50, 51, 52, 53, 54, 55, 56, 57, 58, 59, 60, 61, 62, 63, 64, 65, 66, 67, 68, 69, 70, 71, 72, 73, 74, 75, 76, 77] rfl (by decide +kernel)
set_option maxRecDepth 20000 in
theorem gX12_rootBlocker_X12_reasonFor : GoodIn wsX12_rootBlocker (wsV RX12 313 RX12 yX12_reasonFor wsX12_reasonFor) := goodIn_app (goodIn_of _ (by decide +kernel)) ggX12_rootBlocker_X12_reasonFor
set_option maxRecDepth 20000 in
theorem ggX12_rootBlocker_X12_firstOpen : GoodIn wsX12_rootBlocker wsX12_firstOpen := goodIn_r _ [26, 19, 20, 21, 4, 22, 6, 59, 60, 61, 62, 63, 64, 65, 66, 67, 68, 69, 70, 71, 72, 73, 74, 75, 76, 77] rfl (by decide +kernel)
set_option maxRecDepth 20000 in
theorem gX12_rootBlocker_X12_firstOpen : GoodIn wsX12_rootBlocker (wsV RX12 106 RX12 yX12_firstOpen wsX12_firstOpen) := goodIn_app (goodIn_of _ (by decide +kernel)) ggX12_rootBlocker_X12_firstOpen
theorem dX12_rootBlocker_0 : decode cX12_rootBlocker 0 = .ok (.aload_n 0, 1) := by decide +kernel
theorem dX12_rootBlocker_1 : decode cX12_rootBlocker 1 = .ok (.aload_n 0, 1) := by decide +kernel
theorem dX12_rootBlocker_2 : decode cX12_rootBlocker 2 = .ok (.iload_n 1, 1) := by decide +kernel
theorem dX12_rootBlocker_3 : decode cX12_rootBlocker 3 = .ok (.invokevirtual 304, 3) := by decide +kernel
theorem dX12_rootBlocker_6 : decode cX12_rootBlocker 6 = .ok (.ifCond .ne 7, 3) := by decide +kernel
theorem dX12_rootBlocker_9 : decode cX12_rootBlocker 9 = .ok (.iconst 1, 1) := by decide +kernel
theorem dX12_rootBlocker_10 : decode cX12_rootBlocker 10 = .ok (.goto 4, 3) := by decide +kernel
theorem dX12_rootBlocker_13 : decode cX12_rootBlocker 13 = .ok (.iconst 0, 1) := by decide +kernel
theorem dX12_rootBlocker_14 : decode cX12_rootBlocker 14 = .ok (.iconst 0, 1) := by decide +kernel
theorem dX12_rootBlocker_15 : decode cX12_rootBlocker 15 = .ok (.iconst 0, 1) := by decide +kernel
theorem dX12_rootBlocker_16 : decode cX12_rootBlocker 16 = .ok (.invokevirtual 167, 3) := by decide +kernel
theorem dX12_rootBlocker_19 : decode cX12_rootBlocker 19 = .ok (.ifCond .eq 5, 3) := by decide +kernel
theorem dX12_rootBlocker_22 : decode cX12_rootBlocker 22 = .ok (.iconst 0, 1) := by decide +kernel
theorem dX12_rootBlocker_23 : decode cX12_rootBlocker 23 = .ok (.ireturn, 1) := by decide +kernel
theorem dX12_rootBlocker_24 : decode cX12_rootBlocker 24 = .ok (.iconst (-1), 1) := by decide +kernel
theorem dX12_rootBlocker_25 : decode cX12_rootBlocker 25 = .ok (.istore_n 2, 1) := by decide +kernel
theorem dX12_rootBlocker_26 : decode cX12_rootBlocker 26 = .ok (.iload_n 1, 1) := by decide +kernel
theorem dX12_rootBlocker_27 : decode cX12_rootBlocker 27 = .ok (.istore_n 3, 1) := by decide +kernel
theorem dX12_rootBlocker_28 : decode cX12_rootBlocker 28 = .ok (.aload_n 0, 1) := by decide +kernel
theorem dX12_rootBlocker_29 : decode cX12_rootBlocker 29 = .ok (.iload_n 3, 1) := by decide +kernel
theorem dX12_rootBlocker_30 : decode cX12_rootBlocker 30 = .ok (.invokevirtual 313, 3) := by decide +kernel
theorem dX12_rootBlocker_33 : decode cX12_rootBlocker 33 = .ok (.iconst 2, 1) := by decide +kernel
theorem dX12_rootBlocker_34 : decode cX12_rootBlocker 34 = .ok (.if_icmp .ne 14, 3) := by decide +kernel
theorem dX12_rootBlocker_37 : decode cX12_rootBlocker 37 = .ok (.aload_n 0, 1) := by decide +kernel
theorem dX12_rootBlocker_38 : decode cX12_rootBlocker 38 = .ok (.iload_n 3, 1) := by decide +kernel
theorem dX12_rootBlocker_39 : decode cX12_rootBlocker 39 = .ok (.invokevirtual 106, 3) := by decide +kernel
theorem dX12_rootBlocker_42 : decode cX12_rootBlocker 42 = .ok (.istore_n 2, 1) := by decide +kernel
theorem dX12_rootBlocker_43 : decode cX12_rootBlocker 43 = .ok (.iload_n 2, 1) := by decide +kernel
theorem dX12_rootBlocker_44 : decode cX12_rootBlocker 44 = .ok (.istore_n 3, 1) := by decide +kernel
theorem dX12_rootBlocker_45 : decode cX12_rootBlocker 45 = .ok (.goto (-17), 3) := by decide +kernel
theorem dX12_rootBlocker_48 : decode cX12_rootBlocker 48 = .ok (.iload_n 2, 1) := by decide +kernel
theorem dX12_rootBlocker_49 : decode cX12_rootBlocker 49 = .ok (.ireturn, 1) := by decide +kernel
set_option maxRecDepth 20000 in
theorem ggX12_whyNotServed_X12_servingReason : GoodIn wsX12_whyNotServed wsX12_servingReason := goodIn_r _ [6, 7, 8, 9, 10, 5, 11, 12, 13, 14, 15, 16, 17, 18, 19, 20, 21, 22, 23, 24, 25, 26, 27, 28, 29, 30, 31, 32, 33, 34, 35, 36, 37, 38, 39, 40, 41, 42] rfl (by decide +kernel)
set_option maxRecDepth 20000 in
theorem gX12_whyNotServed_X12_servingReason : GoodIn wsX12_whyNotServed (wsV RX12 274 RX12 yX12_servingReason wsX12_servingReason) := goodIn_app (goodIn_of _ (by decide +kernel)) ggX12_whyNotServed_X12_servingReason
theorem dX12_whyNotServed_0 : decode cX12_whyNotServed 0 = .ok (.aload_n 0, 1) := by decide +kernel
theorem dX12_whyNotServed_1 : decode cX12_whyNotServed 1 = .ok (.iconst 0, 1) := by decide +kernel
theorem dX12_whyNotServed_2 : decode cX12_whyNotServed 2 = .ok (.putfield 1, 3) := by decide +kernel
theorem dX12_whyNotServed_5 : decode cX12_whyNotServed 5 = .ok (.aload_n 0, 1) := by decide +kernel
theorem dX12_whyNotServed_6 : decode cX12_whyNotServed 6 = .ok (.invokevirtual 274, 3) := by decide +kernel
theorem dX12_whyNotServed_9 : decode cX12_whyNotServed 9 = .ok (.ireturn, 1) := by decide +kernel
set_option maxRecDepth 20000 in
theorem ggX12_criticalStep_X12_computePaths : GoodIn wsX12_criticalStep wsX12_computePaths := goodIn_r _ [8, 2, 3, 9, 10, 11, 7, 12, 13, 14, 15, 16, 17, 18, 19, 20, 21, 22, 23, 24, 25, 26, 27, 28, 29, 30, 31, 32, 33, 34, 35] rfl (by decide +kernel)
set_option maxRecDepth 20000 in
theorem gX12_criticalStep_X12_computePaths : GoodIn wsX12_criticalStep (wsV RX12 139 RX12 yX12_computePaths wsX12_computePaths) := goodIn_app (goodIn_of _ (by decide +kernel)) ggX12_criticalStep_X12_computePaths
set_option maxRecDepth 20000 in
theorem ggX12_criticalStep_X12_isPredecessor : GoodIn wsX12_criticalStep wsX12_isPredecessor := goodIn_r _ [12, 13, 14, 15, 7, 16, 2, 17, 18, 19, 20, 21, 22, 23, 24, 25, 26, 27, 28, 29, 30, 31, 32, 33, 34, 35] rfl (by decide +kernel)
set_option maxRecDepth 20000 in
theorem gX12_criticalStep_X12_isPredecessor : GoodIn wsX12_criticalStep (wsV RX12 99 RX12 yX12_isPredecessor wsX12_isPredecessor) := goodIn_app (goodIn_of _ (by decide +kernel)) ggX12_criticalStep_X12_isPredecessor
theorem dX12_criticalStep_0 : decode cX12_criticalStep 0 = .ok (.aload_n 0, 1) := by decide +kernel
theorem dX12_criticalStep_1 : decode cX12_criticalStep 1 = .ok (.iconst 0, 1) := by decide +kernel
theorem dX12_criticalStep_2 : decode cX12_criticalStep 2 = .ok (.putfield 1, 3) := by decide +kernel
theorem dX12_criticalStep_5 : decode cX12_criticalStep 5 = .ok (.aload_n 0, 1) := by decide +kernel
theorem dX12_criticalStep_6 : decode cX12_criticalStep 6 = .ok (.invokevirtual 139, 3) := by decide +kernel
theorem dX12_criticalStep_9 : decode cX12_criticalStep 9 = .ok (.iconst (-1), 1) := by decide +kernel
theorem dX12_criticalStep_10 : decode cX12_criticalStep 10 = .ok (.istore_n 2, 1) := by decide +kernel
theorem dX12_criticalStep_11 : decode cX12_criticalStep 11 = .ok (.iconst 0, 1) := by decide +kernel
theorem dX12_criticalStep_12 : decode cX12_criticalStep 12 = .ok (.istore_n 3, 1) := by decide +kernel
theorem dX12_criticalStep_13 : decode cX12_criticalStep 13 = .ok (.iload_n 3, 1) := by decide +kernel
theorem dX12_criticalStep_14 : decode cX12_criticalStep 14 = .ok (.iload_n 1, 1) := by decide +kernel
theorem dX12_criticalStep_15 : decode cX12_criticalStep 15 = .ok (.if_icmp .gt 97, 3) := by decide +kernel
theorem dX12_criticalStep_18 : decode cX12_criticalStep 18 = .ok (.iconst (-1), 1) := by decide +kernel
theorem dX12_criticalStep_19 : decode cX12_criticalStep 19 = .ok (.istore 4, 2) := by decide +kernel
theorem dX12_criticalStep_21 : decode cX12_criticalStep 21 = .ok (.iconst 0, 1) := by decide +kernel
theorem dX12_criticalStep_22 : decode cX12_criticalStep 22 = .ok (.istore 5, 2) := by decide +kernel
theorem dX12_criticalStep_24 : decode cX12_criticalStep 24 = .ok (.iload 5, 2) := by decide +kernel
theorem dX12_criticalStep_26 : decode cX12_criticalStep 26 = .ok (.aload_n 0, 1) := by decide +kernel
theorem dX12_criticalStep_27 : decode cX12_criticalStep 27 = .ok (.getfield 13, 3) := by decide +kernel
theorem dX12_criticalStep_30 : decode cX12_criticalStep 30 = .ok (.bipush 13, 2) := by decide +kernel
theorem dX12_criticalStep_32 : decode cX12_criticalStep 32 = .ok (.iaload, 1) := by decide +kernel
theorem dX12_criticalStep_33 : decode cX12_criticalStep 33 = .ok (.if_icmp .ge 62, 3) := by decide +kernel
theorem dX12_criticalStep_36 : decode cX12_criticalStep 36 = .ok (.iload_n 3, 1) := by decide +kernel
theorem dX12_criticalStep_37 : decode cX12_criticalStep 37 = .ok (.ifCond .eq 13, 3) := by decide +kernel
theorem dX12_criticalStep_40 : decode cX12_criticalStep 40 = .ok (.aload_n 0, 1) := by decide +kernel
theorem dX12_criticalStep_41 : decode cX12_criticalStep 41 = .ok (.iload_n 2, 1) := by decide +kernel
theorem dX12_criticalStep_42 : decode cX12_criticalStep 42 = .ok (.iload 5, 2) := by decide +kernel
theorem dX12_criticalStep_44 : decode cX12_criticalStep 44 = .ok (.invokevirtual 99, 3) := by decide +kernel
theorem dX12_criticalStep_47 : decode cX12_criticalStep 47 = .ok (.ifCond .eq 7, 3) := by decide +kernel
theorem dX12_criticalStep_50 : decode cX12_criticalStep 50 = .ok (.iconst 1, 1) := by decide +kernel
theorem dX12_criticalStep_51 : decode cX12_criticalStep 51 = .ok (.goto 4, 3) := by decide +kernel
theorem dX12_criticalStep_54 : decode cX12_criticalStep 54 = .ok (.iconst 0, 1) := by decide +kernel
theorem dX12_criticalStep_55 : decode cX12_criticalStep 55 = .ok (.istore 6, 2) := by decide +kernel
theorem dX12_criticalStep_57 : decode cX12_criticalStep 57 = .ok (.iload 6, 2) := by decide +kernel
theorem dX12_criticalStep_59 : decode cX12_criticalStep 59 = .ok (.ifCond .eq 30, 3) := by decide +kernel
theorem dX12_criticalStep_62 : decode cX12_criticalStep 62 = .ok (.iload 4, 2) := by decide +kernel
theorem dX12_criticalStep_64 : decode cX12_criticalStep 64 = .ok (.iconst (-1), 1) := by decide +kernel
theorem dX12_criticalStep_65 : decode cX12_criticalStep 65 = .ok (.if_icmp .eq 20, 3) := by decide +kernel
theorem dX12_criticalStep_68 : decode cX12_criticalStep 68 = .ok (.aload_n 0, 1) := by decide +kernel
theorem dX12_criticalStep_69 : decode cX12_criticalStep 69 = .ok (.getfield 42, 3) := by decide +kernel
theorem dX12_criticalStep_72 : decode cX12_criticalStep 72 = .ok (.iload 5, 2) := by decide +kernel
theorem dX12_criticalStep_74 : decode cX12_criticalStep 74 = .ok (.iaload, 1) := by decide +kernel
theorem dX12_criticalStep_75 : decode cX12_criticalStep 75 = .ok (.aload_n 0, 1) := by decide +kernel
theorem dX12_criticalStep_76 : decode cX12_criticalStep 76 = .ok (.getfield 42, 3) := by decide +kernel
theorem dX12_criticalStep_79 : decode cX12_criticalStep 79 = .ok (.iload 4, 2) := by decide +kernel
theorem dX12_criticalStep_81 : decode cX12_criticalStep 81 = .ok (.iaload, 1) := by decide +kernel
theorem dX12_criticalStep_82 : decode cX12_criticalStep 82 = .ok (.if_icmp .le 7, 3) := by decide +kernel
theorem dX12_criticalStep_85 : decode cX12_criticalStep 85 = .ok (.iload 5, 2) := by decide +kernel
theorem dX12_criticalStep_87 : decode cX12_criticalStep 87 = .ok (.istore 4, 2) := by decide +kernel
theorem dX12_criticalStep_89 : decode cX12_criticalStep 89 = .ok (.iinc 5 1, 3) := by decide +kernel
theorem dX12_criticalStep_92 : decode cX12_criticalStep 92 = .ok (.goto (-68), 3) := by decide +kernel
theorem dX12_criticalStep_95 : decode cX12_criticalStep 95 = .ok (.iload 4, 2) := by decide +kernel
theorem dX12_criticalStep_97 : decode cX12_criticalStep 97 = .ok (.iconst (-1), 1) := by decide +kernel
theorem dX12_criticalStep_98 : decode cX12_criticalStep 98 = .ok (.if_icmp .ne 5, 3) := by decide +kernel
theorem dX12_criticalStep_101 : decode cX12_criticalStep 101 = .ok (.iconst (-1), 1) := by decide +kernel
theorem dX12_criticalStep_102 : decode cX12_criticalStep 102 = .ok (.ireturn, 1) := by decide +kernel
theorem dX12_criticalStep_103 : decode cX12_criticalStep 103 = .ok (.iload 4, 2) := by decide +kernel
theorem dX12_criticalStep_105 : decode cX12_criticalStep 105 = .ok (.istore_n 2, 1) := by decide +kernel
theorem dX12_criticalStep_106 : decode cX12_criticalStep 106 = .ok (.iinc 3 1, 3) := by decide +kernel
theorem dX12_criticalStep_109 : decode cX12_criticalStep 109 = .ok (.goto (-96), 3) := by decide +kernel
theorem dX12_criticalStep_112 : decode cX12_criticalStep 112 = .ok (.iload_n 2, 1) := by decide +kernel
theorem dX12_criticalStep_113 : decode cX12_criticalStep 113 = .ok (.ireturn, 1) := by decide +kernel
set_option maxRecDepth 20000 in
theorem ggX12_slack_X12_isStep : GoodIn wsX12_slack wsX12_isStep := goodIn_r _ [7, 8, 9, 10, 6, 11, 37, 38, 39, 40, 41, 42, 43, 44, 45, 46, 47, 48, 49, 50, 51, 52, 53, 54, 55] rfl (by decide +kernel)
set_option maxRecDepth 20000 in
theorem gX12_slack_X12_isStep : GoodIn wsX12_slack (wsV RX12 304 RX12 yX12_isStep wsX12_isStep) := goodIn_app (goodIn_of _ (by decide +kernel)) ggX12_slack_X12_isStep
set_option maxRecDepth 20000 in
theorem ggX12_slack_X12_fails : GoodIn wsX12_slack wsX12_fails := goodIn_r _ [15, 16, 37, 38, 39, 40, 41, 42, 43, 44, 45, 46, 47, 48, 49, 50, 51, 52, 53, 54, 55] rfl (by decide +kernel)
set_option maxRecDepth 20000 in
theorem gX12_slack_X12_fails : GoodIn wsX12_slack (wsV RX12 167 RX12 yX12_fails wsX12_fails) := goodIn_app (goodIn_of _ (by decide +kernel)) ggX12_slack_X12_fails
set_option maxRecDepth 20000 in
theorem ggX12_slack_X12_computePaths : GoodIn wsX12_slack wsX12_computePaths := goodIn_r _ [20, 8, 1, 21, 22, 23, 6, 24, 25, 26, 27, 28, 37, 38, 39, 40, 41, 42, 43, 44, 45, 46, 47, 48, 49, 50, 51, 52, 53, 54, 55] rfl (by decide +kernel)
set_option maxRecDepth 20000 in
theorem gX12_slack_X12_computePaths : GoodIn wsX12_slack (wsV RX12 139 RX12 yX12_computePaths wsX12_computePaths) := goodIn_app (goodIn_of _ (by decide +kernel)) ggX12_slack_X12_computePaths
set_option maxRecDepth 20000 in
theorem ggX12_slack_X12_computeHeads : GoodIn wsX12_slack wsX12_computeHeads := goodIn_r _ [32, 8, 2, 25, 26, 27, 6, 28, 37, 38, 39, 40, 41, 42, 43, 44, 45, 46, 47, 48, 49, 50, 51, 52, 53, 54, 55] rfl (by decide +kernel)
set_option maxRecDepth 20000 in
theorem gX12_slack_X12_computeHeads : GoodIn wsX12_slack (wsV RX12 319 RX12 yX12_computeHeads wsX12_computeHeads) := goodIn_app (goodIn_of _ (by decide +kernel)) ggX12_slack_X12_computeHeads
set_option maxRecDepth 20000 in
theorem ggX12_slack_X12_longestPath : GoodIn wsX12_slack wsX12_longestPath := goodIn_r _ [36, 8, 1, 37, 38, 39, 40, 41, 42, 43, 44, 45, 46, 47, 48, 49, 50, 51, 52, 53, 54, 55] rfl (by decide +kernel)
set_option maxRecDepth 20000 in
theorem gX12_slack_X12_longestPath : GoodIn wsX12_slack (wsV RX12 322 RX12 yX12_longestPath wsX12_longestPath) := goodIn_app (goodIn_of _ (by decide +kernel)) ggX12_slack_X12_longestPath
theorem dX12_slack_0 : decode cX12_slack 0 = .ok (.aload_n 0, 1) := by decide +kernel
theorem dX12_slack_1 : decode cX12_slack 1 = .ok (.aload_n 0, 1) := by decide +kernel
theorem dX12_slack_2 : decode cX12_slack 2 = .ok (.iload_n 1, 1) := by decide +kernel
theorem dX12_slack_3 : decode cX12_slack 3 = .ok (.invokevirtual 304, 3) := by decide +kernel
theorem dX12_slack_6 : decode cX12_slack 6 = .ok (.ifCond .ne 7, 3) := by decide +kernel
theorem dX12_slack_9 : decode cX12_slack 9 = .ok (.iconst 1, 1) := by decide +kernel
theorem dX12_slack_10 : decode cX12_slack 10 = .ok (.goto 4, 3) := by decide +kernel
theorem dX12_slack_13 : decode cX12_slack 13 = .ok (.iconst 0, 1) := by decide +kernel
theorem dX12_slack_14 : decode cX12_slack 14 = .ok (.iconst 0, 1) := by decide +kernel
theorem dX12_slack_15 : decode cX12_slack 15 = .ok (.iconst 0, 1) := by decide +kernel
theorem dX12_slack_16 : decode cX12_slack 16 = .ok (.invokevirtual 167, 3) := by decide +kernel
theorem dX12_slack_19 : decode cX12_slack 19 = .ok (.ifCond .eq 5, 3) := by decide +kernel
theorem dX12_slack_22 : decode cX12_slack 22 = .ok (.iconst 0, 1) := by decide +kernel
theorem dX12_slack_23 : decode cX12_slack 23 = .ok (.ireturn, 1) := by decide +kernel
theorem dX12_slack_24 : decode cX12_slack 24 = .ok (.aload_n 0, 1) := by decide +kernel
theorem dX12_slack_25 : decode cX12_slack 25 = .ok (.invokevirtual 139, 3) := by decide +kernel
theorem dX12_slack_28 : decode cX12_slack 28 = .ok (.aload_n 0, 1) := by decide +kernel
theorem dX12_slack_29 : decode cX12_slack 29 = .ok (.invokevirtual 319, 3) := by decide +kernel
theorem dX12_slack_32 : decode cX12_slack 32 = .ok (.aload_n 0, 1) := by decide +kernel
theorem dX12_slack_33 : decode cX12_slack 33 = .ok (.invokevirtual 322, 3) := by decide +kernel
theorem dX12_slack_36 : decode cX12_slack 36 = .ok (.aload_n 0, 1) := by decide +kernel
theorem dX12_slack_37 : decode cX12_slack 37 = .ok (.getfield 42, 3) := by decide +kernel
theorem dX12_slack_40 : decode cX12_slack 40 = .ok (.iload_n 1, 1) := by decide +kernel
theorem dX12_slack_41 : decode cX12_slack 41 = .ok (.iaload, 1) := by decide +kernel
theorem dX12_slack_42 : decode cX12_slack 42 = .ok (.isub, 1) := by decide +kernel
theorem dX12_slack_43 : decode cX12_slack 43 = .ok (.aload_n 0, 1) := by decide +kernel
theorem dX12_slack_44 : decode cX12_slack 44 = .ok (.getfield 45, 3) := by decide +kernel
theorem dX12_slack_47 : decode cX12_slack 47 = .ok (.iload_n 1, 1) := by decide +kernel
theorem dX12_slack_48 : decode cX12_slack 48 = .ok (.iaload, 1) := by decide +kernel
theorem dX12_slack_49 : decode cX12_slack 49 = .ok (.isub, 1) := by decide +kernel
theorem dX12_slack_50 : decode cX12_slack 50 = .ok (.ireturn, 1) := by decide +kernel
set_option maxRecDepth 20000 in
theorem ggX12_simulate_X12_isFinished : GoodIn wsX12_simulate wsX12_isFinished := goodIn_r _ [5, 6, 7, 8, 9, 4, 10, 11, 12, 13, 14, 89, 90, 91, 92, 93, 94, 95, 96, 97, 98, 99, 100, 101, 102, 103, 104, 105, 106, 107] rfl (by decide +kernel)
set_option maxRecDepth 20000 in
theorem gX12_simulate_X12_isFinished : GoodIn wsX12_simulate (wsV RX12 161 RX12 yX12_isFinished wsX12_isFinished) := goodIn_app (goodIn_of _ (by decide +kernel)) ggX12_simulate_X12_isFinished
set_option maxRecDepth 20000 in
theorem ggX12_simulate_X12_passMinute : GoodIn wsX12_simulate wsX12_passMinute := goodIn_r _ [18, 6, 19, 20, 21, 22, 4, 23, 24, 25, 26, 27, 11, 12, 13, 14, 28, 29, 30, 31, 32, 33, 34, 35, 36, 37, 38, 39, 40, 41, 42, 43, 44, 45, 46, 47, 48, 49, 50, 51, 52, 53, 54, 55, 56, 57, 58, 59, 60, 61, 62, 63, 64, 65, 66, 67, 68, 69, 70, 71, 72, 73, 74, 75, 76, 77, 78, 79, 80, 81, 82, 83, 84, 85, 86, 87, 88, 89, 90, 91, 92, 93, 94, 95, 96, 97, 98, 99, 100, 101, 102, 103, 104, 105, 106, 107] rfl (by decide +kernel)
set_option maxRecDepth 20000 in
theorem gX12_simulate_X12_passMinute : GoodIn wsX12_simulate (wsV RX12 158 RX12 yX12_passMinute wsX12_passMinute) := goodIn_app (goodIn_of _ (by decide +kernel)) ggX12_simulate_X12_passMinute
theorem dX12_simulate_0 : decode cX12_simulate 0 = .ok (.iconst 0, 1) := by decide +kernel
theorem dX12_simulate_1 : decode cX12_simulate 1 = .ok (.istore_n 1, 1) := by decide +kernel
theorem dX12_simulate_2 : decode cX12_simulate 2 = .ok (.iload_n 1, 1) := by decide +kernel
theorem dX12_simulate_3 : decode cX12_simulate 3 = .ok (.sipush 500, 3) := by decide +kernel
theorem dX12_simulate_6 : decode cX12_simulate 6 = .ok (.if_icmp .ge 20, 3) := by decide +kernel
theorem dX12_simulate_9 : decode cX12_simulate 9 = .ok (.aload_n 0, 1) := by decide +kernel
theorem dX12_simulate_10 : decode cX12_simulate 10 = .ok (.invokevirtual 161, 3) := by decide +kernel
theorem dX12_simulate_13 : decode cX12_simulate 13 = .ok (.ifCond .ne 13, 3) := by decide +kernel
theorem dX12_simulate_16 : decode cX12_simulate 16 = .ok (.aload_n 0, 1) := by decide +kernel
theorem dX12_simulate_17 : decode cX12_simulate 17 = .ok (.invokevirtual 158, 3) := by decide +kernel
theorem dX12_simulate_20 : decode cX12_simulate 20 = .ok (.iinc 1 1, 3) := by decide +kernel
theorem dX12_simulate_23 : decode cX12_simulate 23 = .ok (.goto (-21), 3) := by decide +kernel
theorem dX12_simulate_26 : decode cX12_simulate 26 = .ok (.aload_n 0, 1) := by decide +kernel
theorem dX12_simulate_27 : decode cX12_simulate 27 = .ok (.invokevirtual 161, 3) := by decide +kernel
theorem dX12_simulate_30 : decode cX12_simulate 30 = .ok (.ifCond .eq 7, 3) := by decide +kernel
theorem dX12_simulate_33 : decode cX12_simulate 33 = .ok (.iload_n 1, 1) := by decide +kernel
theorem dX12_simulate_34 : decode cX12_simulate 34 = .ok (.goto 4, 3) := by decide +kernel
theorem dX12_simulate_37 : decode cX12_simulate 37 = .ok (.iconst (-1), 1) := by decide +kernel
theorem dX12_simulate_38 : decode cX12_simulate 38 = .ok (.ireturn, 1) := by decide +kernel
set_option maxRecDepth 20000 in
theorem ggX12_minutesToFinish_X12_copyBlock : GoodIn wsX12_minutesToFinish wsX12_copyBlock := goodIn_r _ [6, 7, 98, 99, 100, 101, 102, 103, 104, 105, 106, 107, 108, 109, 110, 111, 112, 113, 114, 115, 116] rfl (by decide +kernel)
set_option maxRecDepth 20000 in
theorem gX12_minutesToFinish_X12_copyBlock : GoodIn wsX12_minutesToFinish (wsV RX12 91 RX12 yX12_copyBlock wsX12_copyBlock) := goodIn_app (goodIn_of _ (by decide +kernel)) ggX12_minutesToFinish_X12_copyBlock
set_option maxRecDepth 20000 in
theorem ggX12_minutesToFinish_X12_simulate : GoodIn wsX12_minutesToFinish wsX12_simulate := goodIn_r _ [11, 12, 13, 14, 5, 15, 7, 16, 17, 18, 19, 20, 21, 22, 23, 24, 25, 26, 27, 28, 29, 30, 31, 32, 33, 34, 35, 36, 37, 38, 39, 40, 41, 42, 43, 44, 45, 46, 47, 48, 49, 50, 51, 52, 53, 54, 55, 56, 57, 58, 59, 60, 61, 62, 63, 64, 65, 66, 67, 68, 69, 70, 71, 72, 73, 74, 75, 76, 77, 78, 79, 80, 81, 82, 83, 84, 85, 86, 87, 88, 89, 90, 91, 92, 93, 94, 95, 96, 97, 98, 99, 100, 101, 102, 103, 104, 105, 106, 107, 108, 109, 110, 111, 112, 113, 114, 115, 116] rfl (by decide +kernel)
set_option maxRecDepth 20000 in
theorem gX12_minutesToFinish_X12_simulate : GoodIn wsX12_minutesToFinish (wsV RX12 325 RX12 yX12_simulate wsX12_simulate) := goodIn_app (goodIn_of _ (by decide +kernel)) ggX12_minutesToFinish_X12_simulate
theorem dX12_minutesToFinish_0 : decode cX12_minutesToFinish 0 = .ok (.aload_n 0, 1) := by decide +kernel
theorem dX12_minutesToFinish_1 : decode cX12_minutesToFinish 1 = .ok (.iconst 0, 1) := by decide +kernel
theorem dX12_minutesToFinish_2 : decode cX12_minutesToFinish 2 = .ok (.putfield 1, 3) := by decide +kernel
theorem dX12_minutesToFinish_5 : decode cX12_minutesToFinish 5 = .ok (.aload_n 0, 1) := by decide +kernel
theorem dX12_minutesToFinish_6 : decode cX12_minutesToFinish 6 = .ok (.iconst 0, 1) := by decide +kernel
theorem dX12_minutesToFinish_7 : decode cX12_minutesToFinish 7 = .ok (.bipush 9, 2) := by decide +kernel
theorem dX12_minutesToFinish_9 : decode cX12_minutesToFinish 9 = .ok (.invokevirtual 91, 3) := by decide +kernel
theorem dX12_minutesToFinish_12 : decode cX12_minutesToFinish 12 = .ok (.aload_n 0, 1) := by decide +kernel
theorem dX12_minutesToFinish_13 : decode cX12_minutesToFinish 13 = .ok (.invokevirtual 325, 3) := by decide +kernel
theorem dX12_minutesToFinish_16 : decode cX12_minutesToFinish 16 = .ok (.istore_n 1, 1) := by decide +kernel
theorem dX12_minutesToFinish_17 : decode cX12_minutesToFinish 17 = .ok (.aload_n 0, 1) := by decide +kernel
theorem dX12_minutesToFinish_18 : decode cX12_minutesToFinish 18 = .ok (.bipush 9, 2) := by decide +kernel
theorem dX12_minutesToFinish_20 : decode cX12_minutesToFinish 20 = .ok (.iconst 0, 1) := by decide +kernel
theorem dX12_minutesToFinish_21 : decode cX12_minutesToFinish 21 = .ok (.invokevirtual 91, 3) := by decide +kernel
theorem dX12_minutesToFinish_24 : decode cX12_minutesToFinish 24 = .ok (.iload_n 1, 1) := by decide +kernel
theorem dX12_minutesToFinish_25 : decode cX12_minutesToFinish 25 = .ok (.ireturn, 1) := by decide +kernel
set_option maxRecDepth 20000 in
theorem ggX12_statusAfter_X12_isStep : GoodIn wsX12_statusAfter wsX12_isStep := goodIn_r _ [5, 6, 7, 8, 4, 9, 101, 102, 103, 104, 105, 106, 107, 108, 109, 110, 111, 112, 113, 114, 115, 116, 117, 118, 119] rfl (by decide +kernel)
set_option maxRecDepth 20000 in
theorem gX12_statusAfter_X12_isStep : GoodIn wsX12_statusAfter (wsV RX12 304 RX12 yX12_isStep wsX12_isStep) := goodIn_app (goodIn_of _ (by decide +kernel)) ggX12_statusAfter_X12_isStep
set_option maxRecDepth 20000 in
theorem ggX12_statusAfter_X12_in : GoodIn wsX12_statusAfter wsX12_in := goodIn_r _ [9] rfl (by decide +kernel)
set_option maxRecDepth 20000 in
theorem gX12_statusAfter_X12_in : GoodIn wsX12_statusAfter (va_wsS RX12 87 yX12_in wsX12_in) := goodIn_app (goodIn_of _ (by decide +kernel)) ggX12_statusAfter_X12_in
set_option maxRecDepth 20000 in
theorem ggX12_statusAfter_X12_fails : GoodIn wsX12_statusAfter wsX12_fails := goodIn_r _ [13, 14, 101, 102, 103, 104, 105, 106, 107, 108, 109, 110, 111, 112, 113, 114, 115, 116, 117, 118, 119] rfl (by decide +kernel)
set_option maxRecDepth 20000 in
theorem gX12_statusAfter_X12_fails : GoodIn wsX12_statusAfter (wsV RX12 167 RX12 yX12_fails wsX12_fails) := goodIn_app (goodIn_of _ (by decide +kernel)) ggX12_statusAfter_X12_fails
set_option maxRecDepth 20000 in
theorem ggX12_statusAfter_X12_copyBlock : GoodIn wsX12_statusAfter wsX12_copyBlock := goodIn_r _ [18, 6, 101, 102, 103, 104, 105, 106, 107, 108, 109, 110, 111, 112, 113, 114, 115, 116, 117, 118, 119] rfl (by decide +kernel)
set_option maxRecDepth 20000 in
theorem gX12_statusAfter_X12_copyBlock : GoodIn wsX12_statusAfter (wsV RX12 91 RX12 yX12_copyBlock wsX12_copyBlock) := goodIn_app (goodIn_of _ (by decide +kernel)) ggX12_statusAfter_X12_copyBlock
set_option maxRecDepth 20000 in
theorem ggX12_statusAfter_X12_passMinutes : GoodIn wsX12_statusAfter wsX12_passMinutes := goodIn_r _ [22, 6, 23, 24, 25, 4, 26, 27, 28, 29, 30, 31, 32, 33, 34, 35, 36, 37, 38, 39, 40, 41, 42, 43, 44, 45, 46, 47, 48, 49, 50, 51, 52, 53, 54, 55, 56, 57, 58, 59, 60, 61, 62, 63, 64, 65, 66, 67, 68, 69, 70, 71, 72, 73, 74, 75, 76, 77, 78, 79, 80, 81, 82, 83, 84, 85, 86, 87, 88, 89, 90, 91, 92, 93, 94, 95, 96, 97, 98, 99, 100, 101, 102, 103, 104, 105, 106, 107, 108, 109, 110, 111, 112, 113, 114, 115, 116, 117, 118, 119] rfl (by decide +kernel)
set_option maxRecDepth 20000 in
theorem gX12_statusAfter_X12_passMinutes : GoodIn wsX12_statusAfter (wsV RX12 277 RX12 yX12_passMinutes wsX12_passMinutes) := goodIn_app (goodIn_of _ (by decide +kernel)) ggX12_statusAfter_X12_passMinutes
set_option maxRecDepth 20000 in
theorem ggX12_statusAfter_X12_of : GoodIn wsX12_statusAfter wsX12_of := goodIn_r _ [39, 6, 101, 102, 103, 104, 105, 106, 107, 108, 109, 110, 111, 112, 113, 114, 115, 116, 117, 118, 119] rfl (by decide +kernel)
set_option maxRecDepth 20000 in
theorem gX12_statusAfter_X12_of : GoodIn wsX12_statusAfter (wsV RX12 95 RX12 yX12_of wsX12_of) := goodIn_app (goodIn_of _ (by decide +kernel)) ggX12_statusAfter_X12_of
theorem dX12_statusAfter_0 : decode cX12_statusAfter 0 = .ok (.aload_n 0, 1) := by decide +kernel
theorem dX12_statusAfter_1 : decode cX12_statusAfter 1 = .ok (.aload_n 0, 1) := by decide +kernel
theorem dX12_statusAfter_2 : decode cX12_statusAfter 2 = .ok (.iload_n 1, 1) := by decide +kernel
theorem dX12_statusAfter_3 : decode cX12_statusAfter 3 = .ok (.invokevirtual 304, 3) := by decide +kernel
theorem dX12_statusAfter_6 : decode cX12_statusAfter 6 = .ok (.ifCond .ne 7, 3) := by decide +kernel
theorem dX12_statusAfter_9 : decode cX12_statusAfter 9 = .ok (.iconst 1, 1) := by decide +kernel
theorem dX12_statusAfter_10 : decode cX12_statusAfter 10 = .ok (.goto 4, 3) := by decide +kernel
theorem dX12_statusAfter_13 : decode cX12_statusAfter 13 = .ok (.iconst 0, 1) := by decide +kernel
theorem dX12_statusAfter_14 : decode cX12_statusAfter 14 = .ok (.iload_n 2, 1) := by decide +kernel
theorem dX12_statusAfter_15 : decode cX12_statusAfter 15 = .ok (.iconst 0, 1) := by decide +kernel
theorem dX12_statusAfter_16 : decode cX12_statusAfter 16 = .ok (.sipush 500, 3) := by decide +kernel
theorem dX12_statusAfter_19 : decode cX12_statusAfter 19 = .ok (.invokestatic 87, 3) := by decide +kernel
theorem dX12_statusAfter_22 : decode cX12_statusAfter 22 = .ok (.ifCond .ne 7, 3) := by decide +kernel
theorem dX12_statusAfter_25 : decode cX12_statusAfter 25 = .ok (.iconst 1, 1) := by decide +kernel
theorem dX12_statusAfter_26 : decode cX12_statusAfter 26 = .ok (.goto 4, 3) := by decide +kernel
theorem dX12_statusAfter_29 : decode cX12_statusAfter 29 = .ok (.iconst 0, 1) := by decide +kernel
theorem dX12_statusAfter_30 : decode cX12_statusAfter 30 = .ok (.iconst 0, 1) := by decide +kernel
theorem dX12_statusAfter_31 : decode cX12_statusAfter 31 = .ok (.invokevirtual 167, 3) := by decide +kernel
theorem dX12_statusAfter_34 : decode cX12_statusAfter 34 = .ok (.ifCond .eq 5, 3) := by decide +kernel
theorem dX12_statusAfter_37 : decode cX12_statusAfter 37 = .ok (.iconst 0, 1) := by decide +kernel
theorem dX12_statusAfter_38 : decode cX12_statusAfter 38 = .ok (.ireturn, 1) := by decide +kernel
theorem dX12_statusAfter_39 : decode cX12_statusAfter 39 = .ok (.aload_n 0, 1) := by decide +kernel
theorem dX12_statusAfter_40 : decode cX12_statusAfter 40 = .ok (.iconst 0, 1) := by decide +kernel
theorem dX12_statusAfter_41 : decode cX12_statusAfter 41 = .ok (.bipush 9, 2) := by decide +kernel
theorem dX12_statusAfter_43 : decode cX12_statusAfter 43 = .ok (.invokevirtual 91, 3) := by decide +kernel
theorem dX12_statusAfter_46 : decode cX12_statusAfter 46 = .ok (.aload_n 0, 1) := by decide +kernel
theorem dX12_statusAfter_47 : decode cX12_statusAfter 47 = .ok (.iload_n 2, 1) := by decide +kernel
theorem dX12_statusAfter_48 : decode cX12_statusAfter 48 = .ok (.invokevirtual 277, 3) := by decide +kernel
theorem dX12_statusAfter_51 : decode cX12_statusAfter 51 = .ok (.pop, 1) := by decide +kernel
theorem dX12_statusAfter_52 : decode cX12_statusAfter 52 = .ok (.aload_n 0, 1) := by decide +kernel
theorem dX12_statusAfter_53 : decode cX12_statusAfter 53 = .ok (.iload_n 1, 1) := by decide +kernel
theorem dX12_statusAfter_54 : decode cX12_statusAfter 54 = .ok (.bipush 17, 2) := by decide +kernel
theorem dX12_statusAfter_56 : decode cX12_statusAfter 56 = .ok (.invokevirtual 95, 3) := by decide +kernel
theorem dX12_statusAfter_59 : decode cX12_statusAfter 59 = .ok (.istore_n 3, 1) := by decide +kernel
theorem dX12_statusAfter_60 : decode cX12_statusAfter 60 = .ok (.aload_n 0, 1) := by decide +kernel
theorem dX12_statusAfter_61 : decode cX12_statusAfter 61 = .ok (.bipush 9, 2) := by decide +kernel
theorem dX12_statusAfter_63 : decode cX12_statusAfter 63 = .ok (.iconst 0, 1) := by decide +kernel
theorem dX12_statusAfter_64 : decode cX12_statusAfter 64 = .ok (.invokevirtual 91, 3) := by decide +kernel
theorem dX12_statusAfter_67 : decode cX12_statusAfter 67 = .ok (.iload_n 3, 1) := by decide +kernel
theorem dX12_statusAfter_68 : decode cX12_statusAfter 68 = .ok (.ireturn, 1) := by decide +kernel
set_option maxRecDepth 20000 in
theorem ggX12_minutesToBurn_X12_isStep : GoodIn wsX12_minutesToBurn wsX12_isStep := goodIn_r _ [5, 6, 7, 8, 4, 9, 97, 98, 99, 100, 101, 102, 103, 104, 105, 106, 107, 108, 109, 110, 111, 112, 113, 114, 115] rfl (by decide +kernel)
set_option maxRecDepth 20000 in
theorem gX12_minutesToBurn_X12_isStep : GoodIn wsX12_minutesToBurn (wsV RX12 304 RX12 yX12_isStep wsX12_isStep) := goodIn_app (goodIn_of _ (by decide +kernel)) ggX12_minutesToBurn_X12_isStep
set_option maxRecDepth 20000 in
theorem ggX12_minutesToBurn_X12_fails : GoodIn wsX12_minutesToBurn wsX12_fails := goodIn_r _ [13, 14, 97, 98, 99, 100, 101, 102, 103, 104, 105, 106, 107, 108, 109, 110, 111, 112, 113, 114, 115] rfl (by decide +kernel)
set_option maxRecDepth 20000 in
theorem gX12_minutesToBurn_X12_fails : GoodIn wsX12_minutesToBurn (wsV RX12 167 RX12 yX12_fails wsX12_fails) := goodIn_app (goodIn_of _ (by decide +kernel)) ggX12_minutesToBurn_X12_fails
set_option maxRecDepth 20000 in
theorem ggX12_minutesToBurn_X12_copyBlock : GoodIn wsX12_minutesToBurn wsX12_copyBlock := goodIn_r _ [18, 6, 97, 98, 99, 100, 101, 102, 103, 104, 105, 106, 107, 108, 109, 110, 111, 112, 113, 114, 115] rfl (by decide +kernel)
set_option maxRecDepth 20000 in
theorem gX12_minutesToBurn_X12_copyBlock : GoodIn wsX12_minutesToBurn (wsV RX12 91 RX12 yX12_copyBlock wsX12_copyBlock) := goodIn_app (goodIn_of _ (by decide +kernel)) ggX12_minutesToBurn_X12_copyBlock
set_option maxRecDepth 20000 in
theorem ggX12_minutesToBurn_X12_of : GoodIn wsX12_minutesToBurn wsX12_of := goodIn_r _ [22, 6, 97, 98, 99, 100, 101, 102, 103, 104, 105, 106, 107, 108, 109, 110, 111, 112, 113, 114, 115] rfl (by decide +kernel)
set_option maxRecDepth 20000 in
theorem gX12_minutesToBurn_X12_of : GoodIn wsX12_minutesToBurn (wsV RX12 95 RX12 yX12_of wsX12_of) := goodIn_app (goodIn_of _ (by decide +kernel)) ggX12_minutesToBurn_X12_of
set_option maxRecDepth 20000 in
theorem ggX12_minutesToBurn_X12_passMinute : GoodIn wsX12_minutesToBurn wsX12_passMinute := goodIn_r _ [26, 6, 27, 28, 29, 30, 4, 31, 32, 33, 34, 35, 19, 20, 21, 22, 36, 37, 38, 39, 40, 41, 42, 43, 44, 45, 46, 47, 48, 49, 50, 51, 52, 53, 54, 55, 56, 57, 58, 59, 60, 61, 62, 63, 64, 65, 66, 67, 68, 69, 70, 71, 72, 73, 74, 75, 76, 77, 78, 79, 80, 81, 82, 83, 84, 85, 86, 87, 88, 89, 90, 91, 92, 93, 94, 95, 96, 97, 98, 99, 100, 101, 102, 103, 104, 105, 106, 107, 108, 109, 110, 111, 112, 113, 114, 115] rfl (by decide +kernel)
set_option maxRecDepth 20000 in
theorem gX12_minutesToBurn_X12_passMinute : GoodIn wsX12_minutesToBurn (wsV RX12 158 RX12 yX12_passMinute wsX12_passMinute) := goodIn_app (goodIn_of _ (by decide +kernel)) ggX12_minutesToBurn_X12_passMinute
theorem dX12_minutesToBurn_0 : decode cX12_minutesToBurn 0 = .ok (.aload_n 0, 1) := by decide +kernel
theorem dX12_minutesToBurn_1 : decode cX12_minutesToBurn 1 = .ok (.aload_n 0, 1) := by decide +kernel
theorem dX12_minutesToBurn_2 : decode cX12_minutesToBurn 2 = .ok (.iload_n 1, 1) := by decide +kernel
theorem dX12_minutesToBurn_3 : decode cX12_minutesToBurn 3 = .ok (.invokevirtual 304, 3) := by decide +kernel
theorem dX12_minutesToBurn_6 : decode cX12_minutesToBurn 6 = .ok (.ifCond .ne 7, 3) := by decide +kernel
theorem dX12_minutesToBurn_9 : decode cX12_minutesToBurn 9 = .ok (.iconst 1, 1) := by decide +kernel
theorem dX12_minutesToBurn_10 : decode cX12_minutesToBurn 10 = .ok (.goto 4, 3) := by decide +kernel
theorem dX12_minutesToBurn_13 : decode cX12_minutesToBurn 13 = .ok (.iconst 0, 1) := by decide +kernel
theorem dX12_minutesToBurn_14 : decode cX12_minutesToBurn 14 = .ok (.iconst 0, 1) := by decide +kernel
theorem dX12_minutesToBurn_15 : decode cX12_minutesToBurn 15 = .ok (.iconst 0, 1) := by decide +kernel
theorem dX12_minutesToBurn_16 : decode cX12_minutesToBurn 16 = .ok (.invokevirtual 167, 3) := by decide +kernel
theorem dX12_minutesToBurn_19 : decode cX12_minutesToBurn 19 = .ok (.ifCond .eq 5, 3) := by decide +kernel
theorem dX12_minutesToBurn_22 : decode cX12_minutesToBurn 22 = .ok (.iconst 0, 1) := by decide +kernel
theorem dX12_minutesToBurn_23 : decode cX12_minutesToBurn 23 = .ok (.ireturn, 1) := by decide +kernel
theorem dX12_minutesToBurn_24 : decode cX12_minutesToBurn 24 = .ok (.aload_n 0, 1) := by decide +kernel
theorem dX12_minutesToBurn_25 : decode cX12_minutesToBurn 25 = .ok (.iconst 0, 1) := by decide +kernel
theorem dX12_minutesToBurn_26 : decode cX12_minutesToBurn 26 = .ok (.bipush 9, 2) := by decide +kernel
theorem dX12_minutesToBurn_28 : decode cX12_minutesToBurn 28 = .ok (.invokevirtual 91, 3) := by decide +kernel
theorem dX12_minutesToBurn_31 : decode cX12_minutesToBurn 31 = .ok (.aload_n 0, 1) := by decide +kernel
theorem dX12_minutesToBurn_32 : decode cX12_minutesToBurn 32 = .ok (.iload_n 1, 1) := by decide +kernel
theorem dX12_minutesToBurn_33 : decode cX12_minutesToBurn 33 = .ok (.bipush 22, 2) := by decide +kernel
theorem dX12_minutesToBurn_35 : decode cX12_minutesToBurn 35 = .ok (.invokevirtual 95, 3) := by decide +kernel
theorem dX12_minutesToBurn_38 : decode cX12_minutesToBurn 38 = .ok (.istore_n 2, 1) := by decide +kernel
theorem dX12_minutesToBurn_39 : decode cX12_minutesToBurn 39 = .ok (.iconst 0, 1) := by decide +kernel
theorem dX12_minutesToBurn_40 : decode cX12_minutesToBurn 40 = .ok (.istore_n 3, 1) := by decide +kernel
theorem dX12_minutesToBurn_41 : decode cX12_minutesToBurn 41 = .ok (.iload_n 3, 1) := by decide +kernel
theorem dX12_minutesToBurn_42 : decode cX12_minutesToBurn 42 = .ok (.sipush 500, 3) := by decide +kernel
theorem dX12_minutesToBurn_45 : decode cX12_minutesToBurn 45 = .ok (.if_icmp .ge 24, 3) := by decide +kernel
theorem dX12_minutesToBurn_48 : decode cX12_minutesToBurn 48 = .ok (.aload_n 0, 1) := by decide +kernel
theorem dX12_minutesToBurn_49 : decode cX12_minutesToBurn 49 = .ok (.iload_n 1, 1) := by decide +kernel
theorem dX12_minutesToBurn_50 : decode cX12_minutesToBurn 50 = .ok (.bipush 22, 2) := by decide +kernel
theorem dX12_minutesToBurn_52 : decode cX12_minutesToBurn 52 = .ok (.invokevirtual 95, 3) := by decide +kernel
theorem dX12_minutesToBurn_55 : decode cX12_minutesToBurn 55 = .ok (.iload_n 2, 1) := by decide +kernel
theorem dX12_minutesToBurn_56 : decode cX12_minutesToBurn 56 = .ok (.if_icmp .ne 13, 3) := by decide +kernel
theorem dX12_minutesToBurn_59 : decode cX12_minutesToBurn 59 = .ok (.aload_n 0, 1) := by decide +kernel
theorem dX12_minutesToBurn_60 : decode cX12_minutesToBurn 60 = .ok (.invokevirtual 158, 3) := by decide +kernel
theorem dX12_minutesToBurn_63 : decode cX12_minutesToBurn 63 = .ok (.iinc 3 1, 3) := by decide +kernel
theorem dX12_minutesToBurn_66 : decode cX12_minutesToBurn 66 = .ok (.goto (-25), 3) := by decide +kernel
theorem dX12_minutesToBurn_69 : decode cX12_minutesToBurn 69 = .ok (.aload_n 0, 1) := by decide +kernel
theorem dX12_minutesToBurn_70 : decode cX12_minutesToBurn 70 = .ok (.iload_n 1, 1) := by decide +kernel
theorem dX12_minutesToBurn_71 : decode cX12_minutesToBurn 71 = .ok (.bipush 22, 2) := by decide +kernel
theorem dX12_minutesToBurn_73 : decode cX12_minutesToBurn 73 = .ok (.invokevirtual 95, 3) := by decide +kernel
theorem dX12_minutesToBurn_76 : decode cX12_minutesToBurn 76 = .ok (.iload_n 2, 1) := by decide +kernel
theorem dX12_minutesToBurn_77 : decode cX12_minutesToBurn 77 = .ok (.if_icmp .le 7, 3) := by decide +kernel
theorem dX12_minutesToBurn_80 : decode cX12_minutesToBurn 80 = .ok (.iconst 1, 1) := by decide +kernel
theorem dX12_minutesToBurn_81 : decode cX12_minutesToBurn 81 = .ok (.goto 4, 3) := by decide +kernel
theorem dX12_minutesToBurn_84 : decode cX12_minutesToBurn 84 = .ok (.iconst 0, 1) := by decide +kernel
theorem dX12_minutesToBurn_85 : decode cX12_minutesToBurn 85 = .ok (.istore 4, 2) := by decide +kernel
theorem dX12_minutesToBurn_87 : decode cX12_minutesToBurn 87 = .ok (.aload_n 0, 1) := by decide +kernel
theorem dX12_minutesToBurn_88 : decode cX12_minutesToBurn 88 = .ok (.bipush 9, 2) := by decide +kernel
theorem dX12_minutesToBurn_90 : decode cX12_minutesToBurn 90 = .ok (.iconst 0, 1) := by decide +kernel
theorem dX12_minutesToBurn_91 : decode cX12_minutesToBurn 91 = .ok (.invokevirtual 91, 3) := by decide +kernel
theorem dX12_minutesToBurn_94 : decode cX12_minutesToBurn 94 = .ok (.iload 4, 2) := by decide +kernel
theorem dX12_minutesToBurn_96 : decode cX12_minutesToBurn 96 = .ok (.ifCond .eq 7, 3) := by decide +kernel
theorem dX12_minutesToBurn_99 : decode cX12_minutesToBurn 99 = .ok (.iload_n 3, 1) := by decide +kernel
theorem dX12_minutesToBurn_100 : decode cX12_minutesToBurn 100 = .ok (.goto 4, 3) := by decide +kernel
theorem dX12_minutesToBurn_103 : decode cX12_minutesToBurn 103 = .ok (.iconst (-1), 1) := by decide +kernel
theorem dX12_minutesToBurn_104 : decode cX12_minutesToBurn 104 = .ok (.ireturn, 1) := by decide +kernel
set_option maxRecDepth 20000 in
theorem ggX12_finishWith_X12_copyBlock : GoodIn wsX12_finishWith wsX12_copyBlock := goodIn_r _ [6, 1, 97, 98, 99, 100, 101, 102, 103, 104, 105, 106, 107, 108, 109, 110, 111, 112, 113, 114, 115] rfl (by decide +kernel)
set_option maxRecDepth 20000 in
theorem gX12_finishWith_X12_copyBlock : GoodIn wsX12_finishWith (wsV RX12 91 RX12 yX12_copyBlock wsX12_copyBlock) := goodIn_app (goodIn_of _ (by decide +kernel)) ggX12_finishWith_X12_copyBlock
set_option maxRecDepth 20000 in
theorem ggX12_finishWith_X12_simulate : GoodIn wsX12_finishWith wsX12_simulate := goodIn_r _ [10, 11, 12, 13, 5, 14, 1, 15, 16, 17, 18, 19, 20, 21, 22, 23, 24, 25, 26, 27, 28, 29, 30, 31, 32, 33, 34, 35, 36, 37, 38, 39, 40, 41, 42, 43, 44, 45, 46, 47, 48, 49, 50, 51, 52, 53, 54, 55, 56, 57, 58, 59, 60, 61, 62, 63, 64, 65, 66, 67, 68, 69, 70, 71, 72, 73, 74, 75, 76, 77, 78, 79, 80, 81, 82, 83, 84, 85, 86, 87, 88, 89, 90, 91, 92, 93, 94, 95, 96, 97, 98, 99, 100, 101, 102, 103, 104, 105, 106, 107, 108, 109, 110, 111, 112, 113, 114, 115] rfl (by decide +kernel)
set_option maxRecDepth 20000 in
theorem gX12_finishWith_X12_simulate : GoodIn wsX12_finishWith (wsV RX12 325 RX12 yX12_simulate wsX12_simulate) := goodIn_app (goodIn_of _ (by decide +kernel)) ggX12_finishWith_X12_simulate
theorem dX12_finishWith_0 : decode cX12_finishWith 0 = .ok (.aload_n 0, 1) := by decide +kernel
theorem dX12_finishWith_1 : decode cX12_finishWith 1 = .ok (.iconst 0, 1) := by decide +kernel
theorem dX12_finishWith_2 : decode cX12_finishWith 2 = .ok (.bipush 9, 2) := by decide +kernel
theorem dX12_finishWith_4 : decode cX12_finishWith 4 = .ok (.invokevirtual 91, 3) := by decide +kernel
theorem dX12_finishWith_7 : decode cX12_finishWith 7 = .ok (.aload_n 0, 1) := by decide +kernel
theorem dX12_finishWith_8 : decode cX12_finishWith 8 = .ok (.getfield 13, 3) := by decide +kernel
theorem dX12_finishWith_11 : decode cX12_finishWith 11 = .ok (.iconst 0, 1) := by decide +kernel
theorem dX12_finishWith_12 : decode cX12_finishWith 12 = .ok (.iload_n 1, 1) := by decide +kernel
theorem dX12_finishWith_13 : decode cX12_finishWith 13 = .ok (.iastore, 1) := by decide +kernel
theorem dX12_finishWith_14 : decode cX12_finishWith 14 = .ok (.aload_n 0, 1) := by decide +kernel
theorem dX12_finishWith_15 : decode cX12_finishWith 15 = .ok (.invokevirtual 325, 3) := by decide +kernel
theorem dX12_finishWith_18 : decode cX12_finishWith 18 = .ok (.istore_n 2, 1) := by decide +kernel
theorem dX12_finishWith_19 : decode cX12_finishWith 19 = .ok (.aload_n 0, 1) := by decide +kernel
theorem dX12_finishWith_20 : decode cX12_finishWith 20 = .ok (.bipush 9, 2) := by decide +kernel
theorem dX12_finishWith_22 : decode cX12_finishWith 22 = .ok (.iconst 0, 1) := by decide +kernel
theorem dX12_finishWith_23 : decode cX12_finishWith 23 = .ok (.invokevirtual 91, 3) := by decide +kernel
theorem dX12_finishWith_26 : decode cX12_finishWith 26 = .ok (.iload_n 2, 1) := by decide +kernel
theorem dX12_finishWith_27 : decode cX12_finishWith 27 = .ok (.ireturn, 1) := by decide +kernel
set_option maxRecDepth 20000 in
theorem ggX12_minutesWithCooks_X12_in : GoodIn wsX12_minutesWithCooks wsX12_in := goodIn_r _ [4] rfl (by decide +kernel)
set_option maxRecDepth 20000 in
theorem gX12_minutesWithCooks_X12_in : GoodIn wsX12_minutesWithCooks (va_wsS RX12 87 yX12_in wsX12_in) := goodIn_app (goodIn_of _ (by decide +kernel)) ggX12_minutesWithCooks_X12_in
set_option maxRecDepth 20000 in
theorem ggX12_minutesWithCooks_X12_fails : GoodIn wsX12_minutesWithCooks wsX12_fails := goodIn_r _ [8, 9, 109, 110, 111, 112, 113, 114, 115, 116, 117, 118, 119, 120, 121, 122, 123, 124, 125, 126, 127] rfl (by decide +kernel)
set_option maxRecDepth 20000 in
theorem gX12_minutesWithCooks_X12_fails : GoodIn wsX12_minutesWithCooks (wsV RX12 167 RX12 yX12_fails wsX12_fails) := goodIn_app (goodIn_of _ (by decide +kernel)) ggX12_minutesWithCooks_X12_fails
set_option maxRecDepth 20000 in
theorem ggX12_minutesWithCooks_X12_finishWith : GoodIn wsX12_minutesWithCooks wsX12_finishWith := goodIn_r _ [13, 14, 15, 16, 17, 3, 18, 19, 20, 21, 22, 23, 24, 25, 26, 27, 28, 29, 30, 31, 32, 33, 34, 35, 36, 37, 38, 39, 40, 41, 42, 43, 44, 45, 46, 47, 48, 49, 50, 51, 52, 53, 54, 55, 56, 57, 58, 59, 60, 61, 62, 63, 64, 65, 66, 67, 68, 69, 70, 71, 72, 73, 74, 75, 76, 77, 78, 79, 80, 81, 82, 83, 84, 85, 86, 87, 88, 89, 90, 91, 92, 93, 94, 95, 96, 97, 98, 99, 100, 101, 102, 103, 104, 105, 106, 107, 108, 109, 110, 111, 112, 113, 114, 115, 116, 117, 118, 119, 120, 121, 122, 123, 124, 125, 126, 127] rfl (by decide +kernel)
set_option maxRecDepth 20000 in
theorem gX12_minutesWithCooks_X12_finishWith : GoodIn wsX12_minutesWithCooks (wsV RX12 328 RX12 yX12_finishWith wsX12_finishWith) := goodIn_app (goodIn_of _ (by decide +kernel)) ggX12_minutesWithCooks_X12_finishWith
theorem dX12_minutesWithCooks_0 : decode cX12_minutesWithCooks 0 = .ok (.aload_n 0, 1) := by decide +kernel
theorem dX12_minutesWithCooks_1 : decode cX12_minutesWithCooks 1 = .ok (.iload_n 1, 1) := by decide +kernel
theorem dX12_minutesWithCooks_2 : decode cX12_minutesWithCooks 2 = .ok (.iconst 1, 1) := by decide +kernel
theorem dX12_minutesWithCooks_3 : decode cX12_minutesWithCooks 3 = .ok (.iconst 4, 1) := by decide +kernel
theorem dX12_minutesWithCooks_4 : decode cX12_minutesWithCooks 4 = .ok (.invokestatic 87, 3) := by decide +kernel
theorem dX12_minutesWithCooks_7 : decode cX12_minutesWithCooks 7 = .ok (.ifCond .ne 7, 3) := by decide +kernel
theorem dX12_minutesWithCooks_10 : decode cX12_minutesWithCooks 10 = .ok (.iconst 1, 1) := by decide +kernel
theorem dX12_minutesWithCooks_11 : decode cX12_minutesWithCooks 11 = .ok (.goto 4, 3) := by decide +kernel
theorem dX12_minutesWithCooks_14 : decode cX12_minutesWithCooks 14 = .ok (.iconst 0, 1) := by decide +kernel
theorem dX12_minutesWithCooks_15 : decode cX12_minutesWithCooks 15 = .ok (.iconst 0, 1) := by decide +kernel
theorem dX12_minutesWithCooks_16 : decode cX12_minutesWithCooks 16 = .ok (.iconst 0, 1) := by decide +kernel
theorem dX12_minutesWithCooks_17 : decode cX12_minutesWithCooks 17 = .ok (.invokevirtual 167, 3) := by decide +kernel
theorem dX12_minutesWithCooks_20 : decode cX12_minutesWithCooks 20 = .ok (.ifCond .eq 5, 3) := by decide +kernel
theorem dX12_minutesWithCooks_23 : decode cX12_minutesWithCooks 23 = .ok (.iconst 0, 1) := by decide +kernel
theorem dX12_minutesWithCooks_24 : decode cX12_minutesWithCooks 24 = .ok (.ireturn, 1) := by decide +kernel
theorem dX12_minutesWithCooks_25 : decode cX12_minutesWithCooks 25 = .ok (.aload_n 0, 1) := by decide +kernel
theorem dX12_minutesWithCooks_26 : decode cX12_minutesWithCooks 26 = .ok (.iload_n 1, 1) := by decide +kernel
theorem dX12_minutesWithCooks_27 : decode cX12_minutesWithCooks 27 = .ok (.invokevirtual 328, 3) := by decide +kernel
theorem dX12_minutesWithCooks_30 : decode cX12_minutesWithCooks 30 = .ok (.ireturn, 1) := by decide +kernel
set_option maxRecDepth 20000 in
theorem ggX12_fewestCooks_X12_finishWith : GoodIn wsX12_fewestCooks wsX12_finishWith := goodIn_r _ [6, 7, 8, 9, 10, 5, 11, 12, 13, 14, 15, 16, 17, 18, 19, 20, 21, 22, 23, 24, 25, 26, 27, 28, 29, 30, 31, 32, 33, 34, 35, 36, 37, 38, 39, 40, 41, 42, 43, 44, 45, 46, 47, 48, 49, 50, 51, 52, 53, 54, 55, 56, 57, 58, 59, 60, 61, 62, 63, 64, 65, 66, 67, 68, 69, 70, 71, 72, 73, 74, 75, 76, 77, 78, 79, 80, 81, 82, 83, 84, 85, 86, 87, 88, 89, 90, 91, 92, 93, 94, 95, 96, 97, 98, 99, 100, 101, 102, 103, 104, 105, 106, 107, 108, 109, 110, 111, 112, 113, 114, 115, 116, 117, 118, 119, 120] rfl (by decide +kernel)
set_option maxRecDepth 20000 in
theorem gX12_fewestCooks_X12_finishWith : GoodIn wsX12_fewestCooks (wsV RX12 328 RX12 yX12_finishWith wsX12_finishWith) := goodIn_app (goodIn_of _ (by decide +kernel)) ggX12_fewestCooks_X12_finishWith
theorem dX12_fewestCooks_0 : decode cX12_fewestCooks 0 = .ok (.aload_n 0, 1) := by decide +kernel
theorem dX12_fewestCooks_1 : decode cX12_fewestCooks 1 = .ok (.iconst 0, 1) := by decide +kernel
theorem dX12_fewestCooks_2 : decode cX12_fewestCooks 2 = .ok (.putfield 1, 3) := by decide +kernel
theorem dX12_fewestCooks_5 : decode cX12_fewestCooks 5 = .ok (.aload_n 0, 1) := by decide +kernel
theorem dX12_fewestCooks_6 : decode cX12_fewestCooks 6 = .ok (.iconst 4, 1) := by decide +kernel
theorem dX12_fewestCooks_7 : decode cX12_fewestCooks 7 = .ok (.invokevirtual 328, 3) := by decide +kernel
theorem dX12_fewestCooks_10 : decode cX12_fewestCooks 10 = .ok (.istore_n 1, 1) := by decide +kernel
theorem dX12_fewestCooks_11 : decode cX12_fewestCooks 11 = .ok (.iconst 1, 1) := by decide +kernel
theorem dX12_fewestCooks_12 : decode cX12_fewestCooks 12 = .ok (.istore_n 2, 1) := by decide +kernel
theorem dX12_fewestCooks_13 : decode cX12_fewestCooks 13 = .ok (.aload_n 0, 1) := by decide +kernel
theorem dX12_fewestCooks_14 : decode cX12_fewestCooks 14 = .ok (.iload_n 2, 1) := by decide +kernel
theorem dX12_fewestCooks_15 : decode cX12_fewestCooks 15 = .ok (.invokevirtual 328, 3) := by decide +kernel
theorem dX12_fewestCooks_18 : decode cX12_fewestCooks 18 = .ok (.iload_n 1, 1) := by decide +kernel
theorem dX12_fewestCooks_19 : decode cX12_fewestCooks 19 = .ok (.if_icmp .eq 9, 3) := by decide +kernel
theorem dX12_fewestCooks_22 : decode cX12_fewestCooks 22 = .ok (.iinc 2 1, 3) := by decide +kernel
theorem dX12_fewestCooks_25 : decode cX12_fewestCooks 25 = .ok (.goto (-12), 3) := by decide +kernel
theorem dX12_fewestCooks_28 : decode cX12_fewestCooks 28 = .ok (.iload_n 2, 1) := by decide +kernel
theorem dX12_fewestCooks_29 : decode cX12_fewestCooks 29 = .ok (.ireturn, 1) := by decide +kernel
set_option maxRecDepth 20000 in
theorem ggX12_bottleneck_X12_isFinished : GoodIn wsX12_bottleneck wsX12_isFinished := goodIn_r _ [6, 1, 7, 8, 9, 5, 10, 11, 12, 13, 14, 102, 103, 104, 105, 106, 107, 108, 109, 110, 111, 112, 113, 114, 115, 116, 117, 118, 119, 120] rfl (by decide +kernel)
set_option maxRecDepth 20000 in
theorem gX12_bottleneck_X12_isFinished : GoodIn wsX12_bottleneck (wsV RX12 161 RX12 yX12_isFinished wsX12_isFinished) := goodIn_app (goodIn_of _ (by decide +kernel)) ggX12_bottleneck_X12_isFinished
set_option maxRecDepth 20000 in
theorem ggX12_bottleneck_X12_fails : GoodIn wsX12_bottleneck wsX12_fails := goodIn_r _ [18, 19, 102, 103, 104, 105, 106, 107, 108, 109, 110, 111, 112, 113, 114, 115, 116, 117, 118, 119, 120] rfl (by decide +kernel)
set_option maxRecDepth 20000 in
theorem gX12_bottleneck_X12_fails : GoodIn wsX12_bottleneck (wsV RX12 167 RX12 yX12_fails wsX12_fails) := goodIn_app (goodIn_of _ (by decide +kernel)) ggX12_bottleneck_X12_fails
set_option maxRecDepth 20000 in
theorem ggX12_bottleneck_X12_copyBlock : GoodIn wsX12_bottleneck wsX12_copyBlock := goodIn_r _ [23, 1, 102, 103, 104, 105, 106, 107, 108, 109, 110, 111, 112, 113, 114, 115, 116, 117, 118, 119, 120] rfl (by decide +kernel)
set_option maxRecDepth 20000 in
theorem gX12_bottleneck_X12_copyBlock : GoodIn wsX12_bottleneck (wsV RX12 91 RX12 yX12_copyBlock wsX12_copyBlock) := goodIn_app (goodIn_of _ (by decide +kernel)) ggX12_bottleneck_X12_copyBlock
set_option maxRecDepth 20000 in
theorem ggX12_bottleneck_X12_of : GoodIn wsX12_bottleneck wsX12_of := goodIn_r _ [14, 1, 102, 103, 104, 105, 106, 107, 108, 109, 110, 111, 112, 113, 114, 115, 116, 117, 118, 119, 120] rfl (by decide +kernel)
set_option maxRecDepth 20000 in
theorem gX12_bottleneck_X12_of : GoodIn wsX12_bottleneck (wsV RX12 95 RX12 yX12_of wsX12_of) := goodIn_app (goodIn_of _ (by decide +kernel)) ggX12_bottleneck_X12_of
set_option maxRecDepth 20000 in
theorem ggX12_bottleneck_X12_set : GoodIn wsX12_bottleneck wsX12_set := goodIn_r _ [27, 1, 102, 103, 104, 105, 106, 107, 108, 109, 110, 111, 112, 113, 114, 115, 116, 117, 118, 119, 120] rfl (by decide +kernel)
set_option maxRecDepth 20000 in
theorem gX12_bottleneck_X12_set : GoodIn wsX12_bottleneck (wsV RX12 126 RX12 yX12_set wsX12_set) := goodIn_app (goodIn_of _ (by decide +kernel)) ggX12_bottleneck_X12_set
set_option maxRecDepth 20000 in
theorem ggX12_bottleneck_X12_simulate : GoodIn wsX12_bottleneck wsX12_simulate := goodIn_r _ [31, 2, 3, 4, 5, 6, 1, 7, 8, 9, 10, 11, 12, 13, 14, 32, 33, 34, 35, 36, 37, 38, 39, 40, 24, 25, 26, 27, 41, 42, 43, 44, 45, 46, 47, 48, 49, 50, 51, 52, 53, 54, 55, 56, 57, 58, 59, 60, 61, 62, 63, 64, 65, 66, 67, 68, 69, 70, 71, 72, 73, 74, 75, 76, 77, 78, 79, 80, 81, 82, 83, 84, 85, 86, 87, 88, 89, 90, 91, 92, 93, 94, 95, 96, 97, 98, 99, 100, 101, 102, 103, 104, 105, 106, 107, 108, 109, 110, 111, 112, 113, 114, 115, 116, 117, 118, 119, 120] rfl (by decide +kernel)
set_option maxRecDepth 20000 in
theorem gX12_bottleneck_X12_simulate : GoodIn wsX12_bottleneck (wsV RX12 325 RX12 yX12_simulate wsX12_simulate) := goodIn_app (goodIn_of _ (by decide +kernel)) ggX12_bottleneck_X12_simulate
