theorem dX12_append_31 : decode cX12_append 31 = .ok (.invokevirtual 171, 3) := by decide +kernel
theorem dX12_append_34 : decode cX12_append 34 = .ok (.aload_n 0, 1) := by decide +kernel
theorem dX12_append_35 : decode cX12_append 35 = .ok (.iload_n 2, 1) := by decide +kernel
theorem dX12_append_36 : decode cX12_append 36 = .ok (.invokevirtual 171, 3) := by decide +kernel
theorem dX12_append_39 : decode cX12_append 39 = .ok (.aload_n 0, 1) := by decide +kernel
theorem dX12_append_40 : decode cX12_append 40 = .ok (.iload_n 3, 1) := by decide +kernel
theorem dX12_append_41 : decode cX12_append 41 = .ok (.invokevirtual 171, 3) := by decide +kernel
theorem dX12_append_44 : decode cX12_append 44 = .ok (.aload_n 0, 1) := by decide +kernel
theorem dX12_append_45 : decode cX12_append 45 = .ok (.iload 4, 2) := by decide +kernel
theorem dX12_append_47 : decode cX12_append 47 = .ok (.invokevirtual 171, 3) := by decide +kernel
theorem dX12_append_50 : decode cX12_append 50 = .ok (.aload_n 0, 1) := by decide +kernel
theorem dX12_append_51 : decode cX12_append 51 = .ok (.iload 5, 2) := by decide +kernel
theorem dX12_append_53 : decode cX12_append 53 = .ok (.invokevirtual 171, 3) := by decide +kernel
theorem dX12_append_56 : decode cX12_append 56 = .ok (.aload_n 0, 1) := by decide +kernel
theorem dX12_append_57 : decode cX12_append 57 = .ok (.getfield 27, 3) := by decide +kernel
theorem dX12_append_60 : decode cX12_append 60 = .ok (.ireturn, 1) := by decide +kernel
set_option maxRecDepth 20000 in
theorem ggX12_truncate_X12_in : GoodIn wsX12_truncate wsX12_in := goodIn_r _ [5] rfl (by decide +kernel)
set_option maxRecDepth 20000 in
theorem gX12_truncate_X12_in : GoodIn wsX12_truncate (va_wsS RX12 87 yX12_in wsX12_in) := goodIn_app (goodIn_of _ (by decide +kernel)) ggX12_truncate_X12_in
set_option maxRecDepth 20000 in
theorem ggX12_truncate_X12_fails : GoodIn wsX12_truncate wsX12_fails := goodIn_r _ [9, 10, 11, 12, 13, 14, 15, 16, 17, 18, 19, 20, 21, 22, 23, 24, 25, 26, 27, 28, 29] rfl (by decide +kernel)
set_option maxRecDepth 20000 in
theorem gX12_truncate_X12_fails : GoodIn wsX12_truncate (wsV RX12 167 RX12 yX12_fails wsX12_fails) := goodIn_app (goodIn_of _ (by decide +kernel)) ggX12_truncate_X12_fails
theorem dX12_truncate_0 : decode cX12_truncate 0 = .ok (.aload_n 0, 1) := by decide +kernel
theorem dX12_truncate_1 : decode cX12_truncate 1 = .ok (.iload_n 1, 1) := by decide +kernel
theorem dX12_truncate_2 : decode cX12_truncate 2 = .ok (.iconst 0, 1) := by decide +kernel
theorem dX12_truncate_3 : decode cX12_truncate 3 = .ok (.aload_n 0, 1) := by decide +kernel
theorem dX12_truncate_4 : decode cX12_truncate 4 = .ok (.getfield 27, 3) := by decide +kernel
theorem dX12_truncate_7 : decode cX12_truncate 7 = .ok (.invokestatic 87, 3) := by decide +kernel
theorem dX12_truncate_10 : decode cX12_truncate 10 = .ok (.ifCond .ne 7, 3) := by decide +kernel
theorem dX12_truncate_13 : decode cX12_truncate 13 = .ok (.iconst 1, 1) := by decide +kernel
theorem dX12_truncate_14 : decode cX12_truncate 14 = .ok (.goto 4, 3) := by decide +kernel
theorem dX12_truncate_17 : decode cX12_truncate 17 = .ok (.iconst 0, 1) := by decide +kernel
theorem dX12_truncate_18 : decode cX12_truncate 18 = .ok (.iconst 0, 1) := by decide +kernel
theorem dX12_truncate_19 : decode cX12_truncate 19 = .ok (.iconst 0, 1) := by decide +kernel
theorem dX12_truncate_20 : decode cX12_truncate 20 = .ok (.invokevirtual 167, 3) := by decide +kernel
theorem dX12_truncate_23 : decode cX12_truncate 23 = .ok (.ifCond .eq 5, 3) := by decide +kernel
theorem dX12_truncate_26 : decode cX12_truncate 26 = .ok (.iconst 0, 1) := by decide +kernel
theorem dX12_truncate_27 : decode cX12_truncate 27 = .ok (.ireturn, 1) := by decide +kernel
theorem dX12_truncate_28 : decode cX12_truncate 28 = .ok (.aload_n 0, 1) := by decide +kernel
theorem dX12_truncate_29 : decode cX12_truncate 29 = .ok (.iload_n 1, 1) := by decide +kernel
theorem dX12_truncate_30 : decode cX12_truncate 30 = .ok (.putfield 27, 3) := by decide +kernel
theorem dX12_truncate_33 : decode cX12_truncate 33 = .ok (.iload_n 1, 1) := by decide +kernel
theorem dX12_truncate_34 : decode cX12_truncate 34 = .ok (.ireturn, 1) := by decide +kernel
theorem dX12_isSmall_0 : decode cX12_isSmall 0 = .ok (.iload_n 0, 1) := by decide +kernel
theorem dX12_isSmall_1 : decode cX12_isSmall 1 = .ok (.bipush 97, 2) := by decide +kernel
theorem dX12_isSmall_3 : decode cX12_isSmall 3 = .ok (.if_icmp .lt 13, 3) := by decide +kernel
theorem dX12_isSmall_6 : decode cX12_isSmall 6 = .ok (.iload_n 0, 1) := by decide +kernel
theorem dX12_isSmall_7 : decode cX12_isSmall 7 = .ok (.bipush 122, 2) := by decide +kernel
theorem dX12_isSmall_9 : decode cX12_isSmall 9 = .ok (.if_icmp .gt 7, 3) := by decide +kernel
theorem dX12_isSmall_12 : decode cX12_isSmall 12 = .ok (.iconst 1, 1) := by decide +kernel
theorem dX12_isSmall_13 : decode cX12_isSmall 13 = .ok (.goto 4, 3) := by decide +kernel
theorem dX12_isSmall_16 : decode cX12_isSmall 16 = .ok (.iconst 0, 1) := by decide +kernel
theorem dX12_isSmall_17 : decode cX12_isSmall 17 = .ok (.ireturn, 1) := by decide +kernel
theorem dX12_isDigit_0 : decode cX12_isDigit 0 = .ok (.iload_n 0, 1) := by decide +kernel
theorem dX12_isDigit_1 : decode cX12_isDigit 1 = .ok (.bipush 48, 2) := by decide +kernel
theorem dX12_isDigit_3 : decode cX12_isDigit 3 = .ok (.if_icmp .lt 13, 3) := by decide +kernel
theorem dX12_isDigit_6 : decode cX12_isDigit 6 = .ok (.iload_n 0, 1) := by decide +kernel
theorem dX12_isDigit_7 : decode cX12_isDigit 7 = .ok (.bipush 57, 2) := by decide +kernel
theorem dX12_isDigit_9 : decode cX12_isDigit 9 = .ok (.if_icmp .gt 7, 3) := by decide +kernel
theorem dX12_isDigit_12 : decode cX12_isDigit 12 = .ok (.iconst 1, 1) := by decide +kernel
theorem dX12_isDigit_13 : decode cX12_isDigit 13 = .ok (.goto 4, 3) := by decide +kernel
theorem dX12_isDigit_16 : decode cX12_isDigit 16 = .ok (.iconst 0, 1) := by decide +kernel
theorem dX12_isDigit_17 : decode cX12_isDigit 17 = .ok (.ireturn, 1) := by decide +kernel
set_option maxRecDepth 20000 in
theorem ggX12_token_X12_isSmall : GoodIn wsX12_token wsX12_isSmall := goodIn_r _ [10] rfl (by decide +kernel)
set_option maxRecDepth 20000 in
theorem gX12_token_X12_isSmall : GoodIn wsX12_token (va_wsS RX12 174 yX12_isSmall wsX12_isSmall) := goodIn_app (goodIn_of _ (by decide +kernel)) ggX12_token_X12_isSmall
set_option maxRecDepth 20000 in
theorem ggX12_token_X12_isDigit : GoodIn wsX12_token wsX12_isDigit := goodIn_r _ [13] rfl (by decide +kernel)
set_option maxRecDepth 20000 in
theorem gX12_token_X12_isDigit : GoodIn wsX12_token (va_wsS RX12 177 yX12_isDigit wsX12_isDigit) := goodIn_app (goodIn_of _ (by decide +kernel)) ggX12_token_X12_isDigit
theorem dX12_token_0 : decode cX12_token 0 = .ok (.aload_n 0, 1) := by decide +kernel
theorem dX12_token_1 : decode cX12_token 1 = .ok (.getfield 54, 3) := by decide +kernel
theorem dX12_token_4 : decode cX12_token 4 = .ok (.aload_n 0, 1) := by decide +kernel
theorem dX12_token_5 : decode cX12_token 5 = .ok (.getfield 27, 3) := by decide +kernel
theorem dX12_token_8 : decode cX12_token 8 = .ok (.if_icmp .ge 44, 3) := by decide +kernel
theorem dX12_token_11 : decode cX12_token 11 = .ok (.aload_n 0, 1) := by decide +kernel
theorem dX12_token_12 : decode cX12_token 12 = .ok (.getfield 24, 3) := by decide +kernel
theorem dX12_token_15 : decode cX12_token 15 = .ok (.aload_n 0, 1) := by decide +kernel
theorem dX12_token_16 : decode cX12_token 16 = .ok (.getfield 54, 3) := by decide +kernel
theorem dX12_token_19 : decode cX12_token 19 = .ok (.iaload, 1) := by decide +kernel
theorem dX12_token_20 : decode cX12_token 20 = .ok (.bipush 32, 2) := by decide +kernel
theorem dX12_token_22 : decode cX12_token 22 = .ok (.if_icmp .eq 17, 3) := by decide +kernel
theorem dX12_token_25 : decode cX12_token 25 = .ok (.aload_n 0, 1) := by decide +kernel
theorem dX12_token_26 : decode cX12_token 26 = .ok (.getfield 24, 3) := by decide +kernel
theorem dX12_token_29 : decode cX12_token 29 = .ok (.aload_n 0, 1) := by decide +kernel
theorem dX12_token_30 : decode cX12_token 30 = .ok (.getfield 54, 3) := by decide +kernel
theorem dX12_token_33 : decode cX12_token 33 = .ok (.iaload, 1) := by decide +kernel
theorem dX12_token_34 : decode cX12_token 34 = .ok (.bipush 10, 2) := by decide +kernel
theorem dX12_token_36 : decode cX12_token 36 = .ok (.if_icmp .ne 16, 3) := by decide +kernel
theorem dX12_token_39 : decode cX12_token 39 = .ok (.aload_n 0, 1) := by decide +kernel
theorem dX12_token_40 : decode cX12_token 40 = .ok (.dup, 1) := by decide +kernel
theorem dX12_token_41 : decode cX12_token 41 = .ok (.getfield 54, 3) := by decide +kernel
theorem dX12_token_44 : decode cX12_token 44 = .ok (.iconst 1, 1) := by decide +kernel
theorem dX12_token_45 : decode cX12_token 45 = .ok (.iadd, 1) := by decide +kernel
theorem dX12_token_46 : decode cX12_token 46 = .ok (.putfield 54, 3) := by decide +kernel
theorem dX12_token_49 : decode cX12_token 49 = .ok (.goto (-49), 3) := by decide +kernel
theorem dX12_token_52 : decode cX12_token 52 = .ok (.aload_n 0, 1) := by decide +kernel
theorem dX12_token_53 : decode cX12_token 53 = .ok (.aload_n 0, 1) := by decide +kernel
theorem dX12_token_54 : decode cX12_token 54 = .ok (.getfield 54, 3) := by decide +kernel
theorem dX12_token_57 : decode cX12_token 57 = .ok (.putfield 60, 3) := by decide +kernel
theorem dX12_token_60 : decode cX12_token 60 = .ok (.aload_n 0, 1) := by decide +kernel
theorem dX12_token_61 : decode cX12_token 61 = .ok (.getfield 54, 3) := by decide +kernel
theorem dX12_token_64 : decode cX12_token 64 = .ok (.aload_n 0, 1) := by decide +kernel
theorem dX12_token_65 : decode cX12_token 65 = .ok (.getfield 27, 3) := by decide +kernel
theorem dX12_token_68 : decode cX12_token 68 = .ok (.if_icmp .ne 9, 3) := by decide +kernel
theorem dX12_token_71 : decode cX12_token 71 = .ok (.aload_n 0, 1) := by decide +kernel
theorem dX12_token_72 : decode cX12_token 72 = .ok (.iconst 0, 1) := by decide +kernel
theorem dX12_token_73 : decode cX12_token 73 = .ok (.putfield 57, 3) := by decide +kernel
theorem dX12_token_76 : decode cX12_token 76 = .ok (.return_, 1) := by decide +kernel
theorem dX12_token_77 : decode cX12_token 77 = .ok (.aload_n 0, 1) := by decide +kernel
theorem dX12_token_78 : decode cX12_token 78 = .ok (.getfield 24, 3) := by decide +kernel
theorem dX12_token_81 : decode cX12_token 81 = .ok (.aload_n 0, 1) := by decide +kernel
theorem dX12_token_82 : decode cX12_token 82 = .ok (.getfield 54, 3) := by decide +kernel
theorem dX12_token_85 : decode cX12_token 85 = .ok (.iaload, 1) := by decide +kernel
theorem dX12_token_86 : decode cX12_token 86 = .ok (.invokestatic 174, 3) := by decide +kernel
theorem dX12_token_89 : decode cX12_token 89 = .ok (.ifCond .eq 66, 3) := by decide +kernel
theorem dX12_token_92 : decode cX12_token 92 = .ok (.aload_n 0, 1) := by decide +kernel
theorem dX12_token_93 : decode cX12_token 93 = .ok (.getfield 54, 3) := by decide +kernel
theorem dX12_token_96 : decode cX12_token 96 = .ok (.aload_n 0, 1) := by decide +kernel
theorem dX12_token_97 : decode cX12_token 97 = .ok (.getfield 27, 3) := by decide +kernel
theorem dX12_token_100 : decode cX12_token 100 = .ok (.if_icmp .ge 31, 3) := by decide +kernel
theorem dX12_token_103 : decode cX12_token 103 = .ok (.aload_n 0, 1) := by decide +kernel
theorem dX12_token_104 : decode cX12_token 104 = .ok (.getfield 24, 3) := by decide +kernel
theorem dX12_token_107 : decode cX12_token 107 = .ok (.aload_n 0, 1) := by decide +kernel
theorem dX12_token_108 : decode cX12_token 108 = .ok (.getfield 54, 3) := by decide +kernel
theorem dX12_token_111 : decode cX12_token 111 = .ok (.iaload, 1) := by decide +kernel
theorem dX12_token_112 : decode cX12_token 112 = .ok (.invokestatic 174, 3) := by decide +kernel
theorem dX12_token_115 : decode cX12_token 115 = .ok (.ifCond .eq 16, 3) := by decide +kernel
theorem dX12_token_118 : decode cX12_token 118 = .ok (.aload_n 0, 1) := by decide +kernel
theorem dX12_token_119 : decode cX12_token 119 = .ok (.dup, 1) := by decide +kernel
theorem dX12_token_120 : decode cX12_token 120 = .ok (.getfield 54, 3) := by decide +kernel
theorem dX12_token_123 : decode cX12_token 123 = .ok (.iconst 1, 1) := by decide +kernel
theorem dX12_token_124 : decode cX12_token 124 = .ok (.iadd, 1) := by decide +kernel
theorem dX12_token_125 : decode cX12_token 125 = .ok (.putfield 54, 3) := by decide +kernel
theorem dX12_token_128 : decode cX12_token 128 = .ok (.goto (-36), 3) := by decide +kernel
theorem dX12_token_131 : decode cX12_token 131 = .ok (.aload_n 0, 1) := by decide +kernel
theorem dX12_token_132 : decode cX12_token 132 = .ok (.aload_n 0, 1) := by decide +kernel
theorem dX12_token_133 : decode cX12_token 133 = .ok (.getfield 54, 3) := by decide +kernel
theorem dX12_token_136 : decode cX12_token 136 = .ok (.aload_n 0, 1) := by decide +kernel
theorem dX12_token_137 : decode cX12_token 137 = .ok (.getfield 60, 3) := by decide +kernel
theorem dX12_token_140 : decode cX12_token 140 = .ok (.isub, 1) := by decide +kernel
theorem dX12_token_141 : decode cX12_token 141 = .ok (.bipush 8, 2) := by decide +kernel
theorem dX12_token_143 : decode cX12_token 143 = .ok (.if_icmp .le 7, 3) := by decide +kernel
theorem dX12_token_146 : decode cX12_token 146 = .ok (.iconst 4, 1) := by decide +kernel
theorem dX12_token_147 : decode cX12_token 147 = .ok (.goto 4, 3) := by decide +kernel
theorem dX12_token_150 : decode cX12_token 150 = .ok (.iconst 1, 1) := by decide +kernel
theorem dX12_token_151 : decode cX12_token 151 = .ok (.putfield 57, 3) := by decide +kernel
theorem dX12_token_154 : decode cX12_token 154 = .ok (.return_, 1) := by decide +kernel
theorem dX12_token_155 : decode cX12_token 155 = .ok (.aload_n 0, 1) := by decide +kernel
theorem dX12_token_156 : decode cX12_token 156 = .ok (.getfield 24, 3) := by decide +kernel
theorem dX12_token_159 : decode cX12_token 159 = .ok (.aload_n 0, 1) := by decide +kernel
theorem dX12_token_160 : decode cX12_token 160 = .ok (.getfield 54, 3) := by decide +kernel
theorem dX12_token_163 : decode cX12_token 163 = .ok (.iaload, 1) := by decide +kernel
theorem dX12_token_164 : decode cX12_token 164 = .ok (.invokestatic 177, 3) := by decide +kernel
theorem dX12_token_167 : decode cX12_token 167 = .ok (.ifCond .eq 107, 3) := by decide +kernel
theorem dX12_token_170 : decode cX12_token 170 = .ok (.aload_n 0, 1) := by decide +kernel
theorem dX12_token_171 : decode cX12_token 171 = .ok (.iconst 0, 1) := by decide +kernel
theorem dX12_token_172 : decode cX12_token 172 = .ok (.putfield 63, 3) := by decide +kernel
theorem dX12_token_175 : decode cX12_token 175 = .ok (.aload_n 0, 1) := by decide +kernel
theorem dX12_token_176 : decode cX12_token 176 = .ok (.getfield 54, 3) := by decide +kernel
theorem dX12_token_179 : decode cX12_token 179 = .ok (.aload_n 0, 1) := by decide +kernel
theorem dX12_token_180 : decode cX12_token 180 = .ok (.getfield 27, 3) := by decide +kernel
theorem dX12_token_183 : decode cX12_token 183 = .ok (.if_icmp .ge 68, 3) := by decide +kernel
theorem dX12_token_186 : decode cX12_token 186 = .ok (.aload_n 0, 1) := by decide +kernel
theorem dX12_token_187 : decode cX12_token 187 = .ok (.getfield 24, 3) := by decide +kernel
theorem dX12_token_190 : decode cX12_token 190 = .ok (.aload_n 0, 1) := by decide +kernel
theorem dX12_token_191 : decode cX12_token 191 = .ok (.getfield 54, 3) := by decide +kernel
theorem dX12_token_194 : decode cX12_token 194 = .ok (.iaload, 1) := by decide +kernel
theorem dX12_token_195 : decode cX12_token 195 = .ok (.invokestatic 177, 3) := by decide +kernel
theorem dX12_token_198 : decode cX12_token 198 = .ok (.ifCond .eq 53, 3) := by decide +kernel
theorem dX12_token_201 : decode cX12_token 201 = .ok (.aload_n 0, 1) := by decide +kernel
theorem dX12_token_202 : decode cX12_token 202 = .ok (.getfield 54, 3) := by decide +kernel
theorem dX12_token_205 : decode cX12_token 205 = .ok (.aload_n 0, 1) := by decide +kernel
theorem dX12_token_206 : decode cX12_token 206 = .ok (.getfield 60, 3) := by decide +kernel
theorem dX12_token_209 : decode cX12_token 209 = .ok (.isub, 1) := by decide +kernel
theorem dX12_token_210 : decode cX12_token 210 = .ok (.iconst 3, 1) := by decide +kernel
theorem dX12_token_211 : decode cX12_token 211 = .ok (.if_icmp .ge 27, 3) := by decide +kernel
theorem dX12_token_214 : decode cX12_token 214 = .ok (.aload_n 0, 1) := by decide +kernel
theorem dX12_token_215 : decode cX12_token 215 = .ok (.aload_n 0, 1) := by decide +kernel
theorem dX12_token_216 : decode cX12_token 216 = .ok (.getfield 63, 3) := by decide +kernel
theorem dX12_token_219 : decode cX12_token 219 = .ok (.bipush 10, 2) := by decide +kernel
theorem dX12_token_221 : decode cX12_token 221 = .ok (.imul, 1) := by decide +kernel
theorem dX12_token_222 : decode cX12_token 222 = .ok (.aload_n 0, 1) := by decide +kernel
theorem dX12_token_223 : decode cX12_token 223 = .ok (.getfield 24, 3) := by decide +kernel
theorem dX12_token_226 : decode cX12_token 226 = .ok (.aload_n 0, 1) := by decide +kernel
theorem dX12_token_227 : decode cX12_token 227 = .ok (.getfield 54, 3) := by decide +kernel
theorem dX12_token_230 : decode cX12_token 230 = .ok (.iaload, 1) := by decide +kernel
theorem dX12_token_231 : decode cX12_token 231 = .ok (.iadd, 1) := by decide +kernel
theorem dX12_token_232 : decode cX12_token 232 = .ok (.bipush 48, 2) := by decide +kernel
theorem dX12_token_234 : decode cX12_token 234 = .ok (.isub, 1) := by decide +kernel
theorem dX12_token_235 : decode cX12_token 235 = .ok (.putfield 63, 3) := by decide +kernel
theorem dX12_token_238 : decode cX12_token 238 = .ok (.aload_n 0, 1) := by decide +kernel
theorem dX12_token_239 : decode cX12_token 239 = .ok (.dup, 1) := by decide +kernel
theorem dX12_token_240 : decode cX12_token 240 = .ok (.getfield 54, 3) := by decide +kernel
theorem dX12_token_243 : decode cX12_token 243 = .ok (.iconst 1, 1) := by decide +kernel
theorem dX12_token_244 : decode cX12_token 244 = .ok (.iadd, 1) := by decide +kernel
theorem dX12_token_245 : decode cX12_token 245 = .ok (.putfield 54, 3) := by decide +kernel
theorem dX12_token_248 : decode cX12_token 248 = .ok (.goto (-73), 3) := by decide +kernel
theorem dX12_token_251 : decode cX12_token 251 = .ok (.aload_n 0, 1) := by decide +kernel
theorem dX12_token_252 : decode cX12_token 252 = .ok (.aload_n 0, 1) := by decide +kernel
theorem dX12_token_253 : decode cX12_token 253 = .ok (.getfield 54, 3) := by decide +kernel
theorem dX12_token_256 : decode cX12_token 256 = .ok (.aload_n 0, 1) := by decide +kernel
theorem dX12_token_257 : decode cX12_token 257 = .ok (.getfield 60, 3) := by decide +kernel
theorem dX12_token_260 : decode cX12_token 260 = .ok (.isub, 1) := by decide +kernel
theorem dX12_token_261 : decode cX12_token 261 = .ok (.iconst 3, 1) := by decide +kernel
theorem dX12_token_262 : decode cX12_token 262 = .ok (.if_icmp .le 7, 3) := by decide +kernel
theorem dX12_token_265 : decode cX12_token 265 = .ok (.iconst 4, 1) := by decide +kernel
theorem dX12_token_266 : decode cX12_token 266 = .ok (.goto 4, 3) := by decide +kernel
theorem dX12_token_269 : decode cX12_token 269 = .ok (.iconst 2, 1) := by decide +kernel
theorem dX12_token_270 : decode cX12_token 270 = .ok (.putfield 57, 3) := by decide +kernel
theorem dX12_token_273 : decode cX12_token 273 = .ok (.return_, 1) := by decide +kernel
theorem dX12_token_274 : decode cX12_token 274 = .ok (.aload_n 0, 1) := by decide +kernel
theorem dX12_token_275 : decode cX12_token 275 = .ok (.aload_n 0, 1) := by decide +kernel
theorem dX12_token_276 : decode cX12_token 276 = .ok (.getfield 24, 3) := by decide +kernel
theorem dX12_token_279 : decode cX12_token 279 = .ok (.aload_n 0, 1) := by decide +kernel
theorem dX12_token_280 : decode cX12_token 280 = .ok (.getfield 54, 3) := by decide +kernel
theorem dX12_token_283 : decode cX12_token 283 = .ok (.iaload, 1) := by decide +kernel
theorem dX12_token_284 : decode cX12_token 284 = .ok (.bipush 59, 2) := by decide +kernel
theorem dX12_token_286 : decode cX12_token 286 = .ok (.if_icmp .ne 7, 3) := by decide +kernel
theorem dX12_token_289 : decode cX12_token 289 = .ok (.iconst 3, 1) := by decide +kernel
theorem dX12_token_290 : decode cX12_token 290 = .ok (.goto 4, 3) := by decide +kernel
theorem dX12_token_293 : decode cX12_token 293 = .ok (.iconst 4, 1) := by decide +kernel
theorem dX12_token_294 : decode cX12_token 294 = .ok (.putfield 57, 3) := by decide +kernel
theorem dX12_token_297 : decode cX12_token 297 = .ok (.aload_n 0, 1) := by decide +kernel
theorem dX12_token_298 : decode cX12_token 298 = .ok (.dup, 1) := by decide +kernel
theorem dX12_token_299 : decode cX12_token 299 = .ok (.getfield 54, 3) := by decide +kernel
theorem dX12_token_302 : decode cX12_token 302 = .ok (.iconst 1, 1) := by decide +kernel
theorem dX12_token_303 : decode cX12_token 303 = .ok (.iadd, 1) := by decide +kernel
theorem dX12_token_304 : decode cX12_token 304 = .ok (.putfield 54, 3) := by decide +kernel
theorem dX12_token_307 : decode cX12_token 307 = .ok (.return_, 1) := by decide +kernel
set_option maxRecDepth 20000 in
theorem ggX12_begin_X12_token : GoodIn wsX12_begin wsX12_token := goodIn_r _ [8, 3, 9, 10, 11, 12, 13, 14, 15, 7, 16, 17, 18, 19, 20, 21, 22, 23, 24, 25, 26, 27, 28, 29, 30, 31, 32, 33, 34, 35, 36, 37, 38] rfl (by decide +kernel)
set_option maxRecDepth 20000 in
theorem gX12_begin_X12_token : GoodIn wsX12_begin (wsV RX12 180 RX12 yX12_token wsX12_token) := goodIn_app (goodIn_of _ (by decide +kernel)) ggX12_begin_X12_token
theorem dX12_begin_0 : decode cX12_begin 0 = .ok (.aload_n 0, 1) := by decide +kernel
theorem dX12_begin_1 : decode cX12_begin 1 = .ok (.iconst 0, 1) := by decide +kernel
theorem dX12_begin_2 : decode cX12_begin 2 = .ok (.putfield 30, 3) := by decide +kernel
theorem dX12_begin_5 : decode cX12_begin 5 = .ok (.aload_n 0, 1) := by decide +kernel
theorem dX12_begin_6 : decode cX12_begin 6 = .ok (.iconst (-1), 1) := by decide +kernel
theorem dX12_begin_7 : decode cX12_begin 7 = .ok (.putfield 33, 3) := by decide +kernel
theorem dX12_begin_10 : decode cX12_begin 10 = .ok (.aload_n 0, 1) := by decide +kernel
theorem dX12_begin_11 : decode cX12_begin 11 = .ok (.iconst 0, 1) := by decide +kernel
theorem dX12_begin_12 : decode cX12_begin 12 = .ok (.putfield 54, 3) := by decide +kernel
theorem dX12_begin_15 : decode cX12_begin 15 = .ok (.aload_n 0, 1) := by decide +kernel
theorem dX12_begin_16 : decode cX12_begin 16 = .ok (.invokevirtual 180, 3) := by decide +kernel
theorem dX12_begin_19 : decode cX12_begin 19 = .ok (.return_, 1) := by decide +kernel
theorem dX12_wrong_0 : decode cX12_wrong 0 = .ok (.aload_n 0, 1) := by decide +kernel
theorem dX12_wrong_1 : decode cX12_wrong 1 = .ok (.iload_n 1, 1) := by decide +kernel
theorem dX12_wrong_2 : decode cX12_wrong 2 = .ok (.putfield 30, 3) := by decide +kernel
theorem dX12_wrong_5 : decode cX12_wrong 5 = .ok (.aload_n 0, 1) := by decide +kernel
theorem dX12_wrong_6 : decode cX12_wrong 6 = .ok (.aload_n 0, 1) := by decide +kernel
theorem dX12_wrong_7 : decode cX12_wrong 7 = .ok (.getfield 60, 3) := by decide +kernel
theorem dX12_wrong_10 : decode cX12_wrong 10 = .ok (.putfield 33, 3) := by decide +kernel
theorem dX12_wrong_13 : decode cX12_wrong 13 = .ok (.iconst 0, 1) := by decide +kernel
theorem dX12_wrong_14 : decode cX12_wrong 14 = .ok (.ireturn, 1) := by decide +kernel
set_option maxRecDepth 20000 in
theorem ggX12_isWord_J0_length_8abf5 : GoodIn wsX12_isWord wsJ0_length_8abf5 := goodIn_r _ [9, 10, 11, 12, 13, 8, 14, 15, 16] rfl (by decide +kernel)
set_option maxRecDepth 20000 in
theorem gX12_isWord_J0_length_8abf5 : GoodIn wsX12_isWord (wsV RX12 71 RJ0 yJ0_length_8abf5 wsJ0_length_8abf5) := goodIn_app (goodIn_of _ (by decide +kernel)) ggX12_isWord_J0_length_8abf5
set_option maxRecDepth 20000 in
theorem ggX12_isWord_J0_charAt_5068e : GoodIn wsX12_isWord wsJ0_charAt_5068e := goodIn_r _ [20, 10, 21, 22, 23, 8, 24, 15, 16, 25, 26, 27, 28, 29, 30, 31, 32, 33, 34, 35, 36, 37, 38, 39, 40, 41, 42, 43, 44, 45, 46, 47, 48, 49, 50, 51, 52, 53] rfl (by decide +kernel)
set_option maxRecDepth 20000 in
theorem gX12_isWord_J0_charAt_5068e : GoodIn wsX12_isWord (wsV RX12 76 RJ0 yJ0_charAt_5068e wsJ0_charAt_5068e) := goodIn_app (goodIn_of _ (by decide +kernel)) ggX12_isWord_J0_charAt_5068e
theorem dX12_isWord_0 : decode cX12_isWord 0 = .ok (.aload_n 0, 1) := by decide +kernel
theorem dX12_isWord_1 : decode cX12_isWord 1 = .ok (.getfield 57, 3) := by decide +kernel
theorem dX12_isWord_4 : decode cX12_isWord 4 = .ok (.iconst 1, 1) := by decide +kernel
theorem dX12_isWord_5 : decode cX12_isWord 5 = .ok (.if_icmp .ne 19, 3) := by decide +kernel
theorem dX12_isWord_8 : decode cX12_isWord 8 = .ok (.aload_n 0, 1) := by decide +kernel
theorem dX12_isWord_9 : decode cX12_isWord 9 = .ok (.getfield 54, 3) := by decide +kernel
theorem dX12_isWord_12 : decode cX12_isWord 12 = .ok (.aload_n 0, 1) := by decide +kernel
theorem dX12_isWord_13 : decode cX12_isWord 13 = .ok (.getfield 60, 3) := by decide +kernel
theorem dX12_isWord_16 : decode cX12_isWord 16 = .ok (.isub, 1) := by decide +kernel
theorem dX12_isWord_17 : decode cX12_isWord 17 = .ok (.aload_n 1, 1) := by decide +kernel
theorem dX12_isWord_18 : decode cX12_isWord 18 = .ok (.invokevirtual 71, 3) := by decide +kernel
theorem dX12_isWord_21 : decode cX12_isWord 21 = .ok (.if_icmp .eq 5, 3) := by decide +kernel
theorem dX12_isWord_24 : decode cX12_isWord 24 = .ok (.iconst 0, 1) := by decide +kernel
theorem dX12_isWord_25 : decode cX12_isWord 25 = .ok (.ireturn, 1) := by decide +kernel
theorem dX12_isWord_26 : decode cX12_isWord 26 = .ok (.iconst 0, 1) := by decide +kernel
theorem dX12_isWord_27 : decode cX12_isWord 27 = .ok (.istore_n 2, 1) := by decide +kernel
theorem dX12_isWord_28 : decode cX12_isWord 28 = .ok (.iload_n 2, 1) := by decide +kernel
theorem dX12_isWord_29 : decode cX12_isWord 29 = .ok (.aload_n 1, 1) := by decide +kernel
theorem dX12_isWord_30 : decode cX12_isWord 30 = .ok (.invokevirtual 71, 3) := by decide +kernel
theorem dX12_isWord_33 : decode cX12_isWord 33 = .ok (.if_icmp .ge 30, 3) := by decide +kernel
theorem dX12_isWord_36 : decode cX12_isWord 36 = .ok (.aload_n 0, 1) := by decide +kernel
theorem dX12_isWord_37 : decode cX12_isWord 37 = .ok (.getfield 24, 3) := by decide +kernel
theorem dX12_isWord_40 : decode cX12_isWord 40 = .ok (.aload_n 0, 1) := by decide +kernel
theorem dX12_isWord_41 : decode cX12_isWord 41 = .ok (.getfield 60, 3) := by decide +kernel
theorem dX12_isWord_44 : decode cX12_isWord 44 = .ok (.iload_n 2, 1) := by decide +kernel
theorem dX12_isWord_45 : decode cX12_isWord 45 = .ok (.iadd, 1) := by decide +kernel
theorem dX12_isWord_46 : decode cX12_isWord 46 = .ok (.iaload, 1) := by decide +kernel
theorem dX12_isWord_47 : decode cX12_isWord 47 = .ok (.aload_n 1, 1) := by decide +kernel
theorem dX12_isWord_48 : decode cX12_isWord 48 = .ok (.iload_n 2, 1) := by decide +kernel
theorem dX12_isWord_49 : decode cX12_isWord 49 = .ok (.invokevirtual 76, 3) := by decide +kernel
theorem dX12_isWord_52 : decode cX12_isWord 52 = .ok (.if_icmp .eq 5, 3) := by decide +kernel
theorem dX12_isWord_55 : decode cX12_isWord 55 = .ok (.iconst 0, 1) := by decide +kernel
theorem dX12_isWord_56 : decode cX12_isWord 56 = .ok (.ireturn, 1) := by decide +kernel
theorem dX12_isWord_57 : decode cX12_isWord 57 = .ok (.iinc 2 1, 3) := by decide +kernel
theorem dX12_isWord_60 : decode cX12_isWord 60 = .ok (.goto (-32), 3) := by decide +kernel
theorem dX12_isWord_63 : decode cX12_isWord 63 = .ok (.iconst 1, 1) := by decide +kernel
theorem dX12_isWord_64 : decode cX12_isWord 64 = .ok (.ireturn, 1) := by decide +kernel
set_option maxRecDepth 20000 in
theorem ggX12_takes_X12_isWord : GoodIn wsX12_takes wsX12_isWord := goodIn_r _ [5, 6, 7, 8, 9, 10, 11, 12, 13, 14, 15, 16, 17, 18, 19, 20, 21, 22, 23, 24, 25, 26, 27, 28, 29, 30, 31, 32, 33, 34, 35, 36, 37, 38, 39, 40, 41, 42, 43, 44, 45, 46, 47, 48, 49, 50, 51, 52, 53, 54, 55, 56, 57, 58, 71, 72, 73, 74, 75, 76, 77, 78, 79, 80, 81, 82, 83, 84, 85, 86, 87, 88, 89] rfl (by decide +kernel)
set_option maxRecDepth 20000 in
theorem gX12_takes_X12_isWord : GoodIn wsX12_takes (wsV RX12 183 RX12 yX12_isWord wsX12_isWord) := goodIn_app (goodIn_of _ (by decide +kernel)) ggX12_takes_X12_isWord
set_option maxRecDepth 20000 in
theorem ggX12_takes_X12_token : GoodIn wsX12_takes wsX12_token := goodIn_r _ [62, 7, 63, 9, 8, 6, 64, 65, 66, 4, 67, 68, 69, 70, 71, 72, 73, 74, 75, 76, 77, 78, 79, 80, 81, 82, 83, 84, 85, 86, 87, 88, 89] rfl (by decide +kernel)
set_option maxRecDepth 20000 in
theorem gX12_takes_X12_token : GoodIn wsX12_takes (wsV RX12 180 RX12 yX12_token wsX12_token) := goodIn_app (goodIn_of _ (by decide +kernel)) ggX12_takes_X12_token
theorem dX12_takes_0 : decode cX12_takes 0 = .ok (.aload_n 0, 1) := by decide +kernel
theorem dX12_takes_1 : decode cX12_takes 1 = .ok (.aload_n 1, 1) := by decide +kernel
theorem dX12_takes_2 : decode cX12_takes 2 = .ok (.invokevirtual 183, 3) := by decide +kernel
theorem dX12_takes_5 : decode cX12_takes 5 = .ok (.ifCond .ne 5, 3) := by decide +kernel
theorem dX12_takes_8 : decode cX12_takes 8 = .ok (.iconst 0, 1) := by decide +kernel
theorem dX12_takes_9 : decode cX12_takes 9 = .ok (.ireturn, 1) := by decide +kernel
theorem dX12_takes_10 : decode cX12_takes 10 = .ok (.aload_n 0, 1) := by decide +kernel
theorem dX12_takes_11 : decode cX12_takes 11 = .ok (.invokevirtual 180, 3) := by decide +kernel
theorem dX12_takes_14 : decode cX12_takes 14 = .ok (.iconst 1, 1) := by decide +kernel
theorem dX12_takes_15 : decode cX12_takes 15 = .ok (.ireturn, 1) := by decide +kernel
set_option maxRecDepth 20000 in
theorem ggX12_semicolon_X12_wrong : GoodIn wsX12_semicolon wsX12_wrong := goodIn_r _ [6, 7, 8, 9, 24, 25, 26, 27, 28, 29, 30, 31, 32, 33, 34, 35, 36, 37, 38, 39, 40, 41, 42] rfl (by decide +kernel)
set_option maxRecDepth 20000 in
theorem gX12_semicolon_X12_wrong : GoodIn wsX12_semicolon (wsV RX12 187 RX12 yX12_wrong wsX12_wrong) := goodIn_app (goodIn_of _ (by decide +kernel)) ggX12_semicolon_X12_wrong
set_option maxRecDepth 20000 in
theorem ggX12_semicolon_X12_token : GoodIn wsX12_semicolon wsX12_token := goodIn_r _ [13, 14, 15, 16, 8, 1, 17, 18, 19, 5, 20, 21, 22, 23, 24, 25, 26, 27, 28, 29, 30, 31, 32, 33, 34, 35, 36, 37, 38, 39, 40, 41, 42] rfl (by decide +kernel)
set_option maxRecDepth 20000 in
theorem gX12_semicolon_X12_token : GoodIn wsX12_semicolon (wsV RX12 180 RX12 yX12_token wsX12_token) := goodIn_app (goodIn_of _ (by decide +kernel)) ggX12_semicolon_X12_token
theorem dX12_semicolon_0 : decode cX12_semicolon 0 = .ok (.aload_n 0, 1) := by decide +kernel
theorem dX12_semicolon_1 : decode cX12_semicolon 1 = .ok (.getfield 57, 3) := by decide +kernel
theorem dX12_semicolon_4 : decode cX12_semicolon 4 = .ok (.iconst 3, 1) := by decide +kernel
theorem dX12_semicolon_5 : decode cX12_semicolon 5 = .ok (.if_icmp .eq 9, 3) := by decide +kernel
theorem dX12_semicolon_8 : decode cX12_semicolon 8 = .ok (.aload_n 0, 1) := by decide +kernel
theorem dX12_semicolon_9 : decode cX12_semicolon 9 = .ok (.iconst 1, 1) := by decide +kernel
theorem dX12_semicolon_10 : decode cX12_semicolon 10 = .ok (.invokevirtual 187, 3) := by decide +kernel
theorem dX12_semicolon_13 : decode cX12_semicolon 13 = .ok (.ireturn, 1) := by decide +kernel
theorem dX12_semicolon_14 : decode cX12_semicolon 14 = .ok (.aload_n 0, 1) := by decide +kernel
theorem dX12_semicolon_15 : decode cX12_semicolon 15 = .ok (.invokevirtual 180, 3) := by decide +kernel
theorem dX12_semicolon_18 : decode cX12_semicolon 18 = .ok (.iconst 1, 1) := by decide +kernel
theorem dX12_semicolon_19 : decode cX12_semicolon 19 = .ok (.ireturn, 1) := by decide +kernel
theorem dX12_isNamed_0 : decode cX12_isNamed 0 = .ok (.aload_n 0, 1) := by decide +kernel
theorem dX12_isNamed_1 : decode cX12_isNamed 1 = .ok (.getfield 13, 3) := by decide +kernel
theorem dX12_isNamed_4 : decode cX12_isNamed 4 = .ok (.iload_n 1, 1) := by decide +kernel
theorem dX12_isNamed_5 : decode cX12_isNamed 5 = .ok (.iaload, 1) := by decide +kernel
theorem dX12_isNamed_6 : decode cX12_isNamed 6 = .ok (.iload_n 3, 1) := by decide +kernel
theorem dX12_isNamed_7 : decode cX12_isNamed 7 = .ok (.if_icmp .eq 5, 3) := by decide +kernel
theorem dX12_isNamed_10 : decode cX12_isNamed 10 = .ok (.iconst 0, 1) := by decide +kernel
theorem dX12_isNamed_11 : decode cX12_isNamed 11 = .ok (.ireturn, 1) := by decide +kernel
theorem dX12_isNamed_12 : decode cX12_isNamed 12 = .ok (.iconst 0, 1) := by decide +kernel
theorem dX12_isNamed_13 : decode cX12_isNamed 13 = .ok (.istore 4, 2) := by decide +kernel
theorem dX12_isNamed_15 : decode cX12_isNamed 15 = .ok (.iload 4, 2) := by decide +kernel
theorem dX12_isNamed_17 : decode cX12_isNamed 17 = .ok (.iload_n 3, 1) := by decide +kernel
theorem dX12_isNamed_18 : decode cX12_isNamed 18 = .ok (.if_icmp .ge 34, 3) := by decide +kernel
theorem dX12_isNamed_21 : decode cX12_isNamed 21 = .ok (.aload_n 0, 1) := by decide +kernel
theorem dX12_isNamed_22 : decode cX12_isNamed 22 = .ok (.getfield 13, 3) := by decide +kernel
theorem dX12_isNamed_25 : decode cX12_isNamed 25 = .ok (.iload_n 1, 1) := by decide +kernel
theorem dX12_isNamed_26 : decode cX12_isNamed 26 = .ok (.iconst 1, 1) := by decide +kernel
theorem dX12_isNamed_27 : decode cX12_isNamed 27 = .ok (.iadd, 1) := by decide +kernel
theorem dX12_isNamed_28 : decode cX12_isNamed 28 = .ok (.iload 4, 2) := by decide +kernel
theorem dX12_isNamed_30 : decode cX12_isNamed 30 = .ok (.iadd, 1) := by decide +kernel
theorem dX12_isNamed_31 : decode cX12_isNamed 31 = .ok (.iaload, 1) := by decide +kernel
theorem dX12_isNamed_32 : decode cX12_isNamed 32 = .ok (.aload_n 0, 1) := by decide +kernel
theorem dX12_isNamed_33 : decode cX12_isNamed 33 = .ok (.getfield 24, 3) := by decide +kernel
theorem dX12_isNamed_36 : decode cX12_isNamed 36 = .ok (.iload_n 2, 1) := by decide +kernel
theorem dX12_isNamed_37 : decode cX12_isNamed 37 = .ok (.iload 4, 2) := by decide +kernel
theorem dX12_isNamed_39 : decode cX12_isNamed 39 = .ok (.iadd, 1) := by decide +kernel
theorem dX12_isNamed_40 : decode cX12_isNamed 40 = .ok (.iaload, 1) := by decide +kernel
theorem dX12_isNamed_41 : decode cX12_isNamed 41 = .ok (.if_icmp .eq 5, 3) := by decide +kernel
theorem dX12_isNamed_44 : decode cX12_isNamed 44 = .ok (.iconst 0, 1) := by decide +kernel
theorem dX12_isNamed_45 : decode cX12_isNamed 45 = .ok (.ireturn, 1) := by decide +kernel
theorem dX12_isNamed_46 : decode cX12_isNamed 46 = .ok (.iinc 4 1, 3) := by decide +kernel
theorem dX12_isNamed_49 : decode cX12_isNamed 49 = .ok (.goto (-34), 3) := by decide +kernel
theorem dX12_isNamed_52 : decode cX12_isNamed 52 = .ok (.iconst 1, 1) := by decide +kernel
theorem dX12_isNamed_53 : decode cX12_isNamed 53 = .ok (.ireturn, 1) := by decide +kernel
set_option maxRecDepth 20000 in
theorem ggX12_panNamed_X12_isNamed : GoodIn wsX12_panNamed wsX12_isNamed := goodIn_r _ [6, 1, 7, 8, 9, 10, 11, 12, 13, 14, 15, 16, 17, 18, 19, 20, 21, 22, 23, 24, 25, 26] rfl (by decide +kernel)
set_option maxRecDepth 20000 in
theorem gX12_panNamed_X12_isNamed : GoodIn wsX12_panNamed (wsV RX12 190 RX12 yX12_isNamed wsX12_isNamed) := goodIn_app (goodIn_of _ (by decide +kernel)) ggX12_panNamed_X12_isNamed
theorem dX12_panNamed_0 : decode cX12_panNamed 0 = .ok (.iconst 0, 1) := by decide +kernel
theorem dX12_panNamed_1 : decode cX12_panNamed 1 = .ok (.istore_n 3, 1) := by decide +kernel
theorem dX12_panNamed_2 : decode cX12_panNamed 2 = .ok (.iload_n 3, 1) := by decide +kernel
theorem dX12_panNamed_3 : decode cX12_panNamed 3 = .ok (.aload_n 0, 1) := by decide +kernel
theorem dX12_panNamed_4 : decode cX12_panNamed 4 = .ok (.getfield 13, 3) := by decide +kernel
theorem dX12_panNamed_7 : decode cX12_panNamed 7 = .ok (.bipush 12, 2) := by decide +kernel
theorem dX12_panNamed_9 : decode cX12_panNamed 9 = .ok (.iaload, 1) := by decide +kernel
theorem dX12_panNamed_10 : decode cX12_panNamed 10 = .ok (.if_icmp .ge 27, 3) := by decide +kernel
theorem dX12_panNamed_13 : decode cX12_panNamed 13 = .ok (.aload_n 0, 1) := by decide +kernel
theorem dX12_panNamed_14 : decode cX12_panNamed 14 = .ok (.bipush 14, 2) := by decide +kernel
theorem dX12_panNamed_16 : decode cX12_panNamed 16 = .ok (.iload_n 3, 1) := by decide +kernel
theorem dX12_panNamed_17 : decode cX12_panNamed 17 = .ok (.bipush 8, 2) := by decide +kernel
theorem dX12_panNamed_19 : decode cX12_panNamed 19 = .ok (.imul, 1) := by decide +kernel
theorem dX12_panNamed_20 : decode cX12_panNamed 20 = .ok (.iadd, 1) := by decide +kernel
theorem dX12_panNamed_21 : decode cX12_panNamed 21 = .ok (.iload_n 1, 1) := by decide +kernel
theorem dX12_panNamed_22 : decode cX12_panNamed 22 = .ok (.iload_n 2, 1) := by decide +kernel
theorem dX12_panNamed_23 : decode cX12_panNamed 23 = .ok (.invokevirtual 190, 3) := by decide +kernel
theorem dX12_panNamed_26 : decode cX12_panNamed 26 = .ok (.ifCond .eq 5, 3) := by decide +kernel
theorem dX12_panNamed_29 : decode cX12_panNamed 29 = .ok (.iload_n 3, 1) := by decide +kernel
theorem dX12_panNamed_30 : decode cX12_panNamed 30 = .ok (.ireturn, 1) := by decide +kernel
theorem dX12_panNamed_31 : decode cX12_panNamed 31 = .ok (.iinc 3 1, 3) := by decide +kernel
theorem dX12_panNamed_34 : decode cX12_panNamed 34 = .ok (.goto (-32), 3) := by decide +kernel
theorem dX12_panNamed_37 : decode cX12_panNamed 37 = .ok (.iconst (-1), 1) := by decide +kernel
theorem dX12_panNamed_38 : decode cX12_panNamed 38 = .ok (.ireturn, 1) := by decide +kernel
set_option maxRecDepth 20000 in
theorem ggX12_stepNamed_X12_isNamed : GoodIn wsX12_stepNamed wsX12_isNamed := goodIn_r _ [6, 1, 7, 8, 9, 10, 11, 12, 13, 14, 15, 16, 17, 18, 19, 20, 21, 22, 23, 24, 25, 26] rfl (by decide +kernel)
set_option maxRecDepth 20000 in
theorem gX12_stepNamed_X12_isNamed : GoodIn wsX12_stepNamed (wsV RX12 190 RX12 yX12_isNamed wsX12_isNamed) := goodIn_app (goodIn_of _ (by decide +kernel)) ggX12_stepNamed_X12_isNamed
theorem dX12_stepNamed_0 : decode cX12_stepNamed 0 = .ok (.iconst 0, 1) := by decide +kernel
theorem dX12_stepNamed_1 : decode cX12_stepNamed 1 = .ok (.istore_n 3, 1) := by decide +kernel
theorem dX12_stepNamed_2 : decode cX12_stepNamed 2 = .ok (.iload_n 3, 1) := by decide +kernel
theorem dX12_stepNamed_3 : decode cX12_stepNamed 3 = .ok (.aload_n 0, 1) := by decide +kernel
theorem dX12_stepNamed_4 : decode cX12_stepNamed 4 = .ok (.getfield 13, 3) := by decide +kernel
theorem dX12_stepNamed_7 : decode cX12_stepNamed 7 = .ok (.bipush 13, 2) := by decide +kernel
theorem dX12_stepNamed_9 : decode cX12_stepNamed 9 = .ok (.iaload, 1) := by decide +kernel
theorem dX12_stepNamed_10 : decode cX12_stepNamed 10 = .ok (.if_icmp .ge 27, 3) := by decide +kernel
theorem dX12_stepNamed_13 : decode cX12_stepNamed 13 = .ok (.aload_n 0, 1) := by decide +kernel
theorem dX12_stepNamed_14 : decode cX12_stepNamed 14 = .ok (.bipush 46, 2) := by decide +kernel
theorem dX12_stepNamed_16 : decode cX12_stepNamed 16 = .ok (.iload_n 3, 1) := by decide +kernel
theorem dX12_stepNamed_17 : decode cX12_stepNamed 17 = .ok (.bipush 24, 2) := by decide +kernel
theorem dX12_stepNamed_19 : decode cX12_stepNamed 19 = .ok (.imul, 1) := by decide +kernel
theorem dX12_stepNamed_20 : decode cX12_stepNamed 20 = .ok (.iadd, 1) := by decide +kernel
theorem dX12_stepNamed_21 : decode cX12_stepNamed 21 = .ok (.iload_n 1, 1) := by decide +kernel
theorem dX12_stepNamed_22 : decode cX12_stepNamed 22 = .ok (.iload_n 2, 1) := by decide +kernel
theorem dX12_stepNamed_23 : decode cX12_stepNamed 23 = .ok (.invokevirtual 190, 3) := by decide +kernel
theorem dX12_stepNamed_26 : decode cX12_stepNamed 26 = .ok (.ifCond .eq 5, 3) := by decide +kernel
theorem dX12_stepNamed_29 : decode cX12_stepNamed 29 = .ok (.iload_n 3, 1) := by decide +kernel
theorem dX12_stepNamed_30 : decode cX12_stepNamed 30 = .ok (.ireturn, 1) := by decide +kernel
theorem dX12_stepNamed_31 : decode cX12_stepNamed 31 = .ok (.iinc 3 1, 3) := by decide +kernel
theorem dX12_stepNamed_34 : decode cX12_stepNamed 34 = .ok (.goto (-32), 3) := by decide +kernel
theorem dX12_stepNamed_37 : decode cX12_stepNamed 37 = .ok (.iconst (-1), 1) := by decide +kernel
theorem dX12_stepNamed_38 : decode cX12_stepNamed 38 = .ok (.ireturn, 1) := by decide +kernel
set_option maxRecDepth 20000 in
theorem ggX12_isShortWord_X12_wrong : GoodIn wsX12_isShortWord wsX12_wrong := goodIn_r _ [8, 9, 3, 10, 11, 12, 13, 14, 15, 16, 17, 18, 19, 20, 21, 22, 23, 24, 25, 26, 27, 28, 29] rfl (by decide +kernel)
set_option maxRecDepth 20000 in
theorem gX12_isShortWord_X12_wrong : GoodIn wsX12_isShortWord (wsV RX12 187 RX12 yX12_wrong wsX12_wrong) := goodIn_app (goodIn_of _ (by decide +kernel)) ggX12_isShortWord_X12_wrong
theorem dX12_isShortWord_0 : decode cX12_isShortWord 0 = .ok (.aload_n 0, 1) := by decide +kernel
theorem dX12_isShortWord_1 : decode cX12_isShortWord 1 = .ok (.getfield 57, 3) := by decide +kernel
theorem dX12_isShortWord_4 : decode cX12_isShortWord 4 = .ok (.iconst 1, 1) := by decide +kernel
theorem dX12_isShortWord_5 : decode cX12_isShortWord 5 = .ok (.if_icmp .eq 9, 3) := by decide +kernel
theorem dX12_isShortWord_8 : decode cX12_isShortWord 8 = .ok (.aload_n 0, 1) := by decide +kernel
theorem dX12_isShortWord_9 : decode cX12_isShortWord 9 = .ok (.iconst 1, 1) := by decide +kernel
theorem dX12_isShortWord_10 : decode cX12_isShortWord 10 = .ok (.invokevirtual 187, 3) := by decide +kernel
theorem dX12_isShortWord_13 : decode cX12_isShortWord 13 = .ok (.ireturn, 1) := by decide +kernel
theorem dX12_isShortWord_14 : decode cX12_isShortWord 14 = .ok (.aload_n 0, 1) := by decide +kernel
theorem dX12_isShortWord_15 : decode cX12_isShortWord 15 = .ok (.getfield 54, 3) := by decide +kernel
theorem dX12_isShortWord_18 : decode cX12_isShortWord 18 = .ok (.aload_n 0, 1) := by decide +kernel
theorem dX12_isShortWord_19 : decode cX12_isShortWord 19 = .ok (.getfield 60, 3) := by decide +kernel
theorem dX12_isShortWord_22 : decode cX12_isShortWord 22 = .ok (.isub, 1) := by decide +kernel
theorem dX12_isShortWord_23 : decode cX12_isShortWord 23 = .ok (.bipush 6, 2) := by decide +kernel
theorem dX12_isShortWord_25 : decode cX12_isShortWord 25 = .ok (.if_icmp .le 11, 3) := by decide +kernel
theorem dX12_isShortWord_28 : decode cX12_isShortWord 28 = .ok (.aload_n 0, 1) := by decide +kernel
theorem dX12_isShortWord_29 : decode cX12_isShortWord 29 = .ok (.iconst 3, 1) := by decide +kernel
theorem dX12_isShortWord_30 : decode cX12_isShortWord 30 = .ok (.invokevirtual 187, 3) := by decide +kernel
theorem dX12_isShortWord_33 : decode cX12_isShortWord 33 = .ok (.ifCond .eq 7, 3) := by decide +kernel
theorem dX12_isShortWord_36 : decode cX12_isShortWord 36 = .ok (.iconst 1, 1) := by decide +kernel
theorem dX12_isShortWord_37 : decode cX12_isShortWord 37 = .ok (.goto 4, 3) := by decide +kernel
theorem dX12_isShortWord_40 : decode cX12_isShortWord 40 = .ok (.iconst 0, 1) := by decide +kernel
theorem dX12_isShortWord_41 : decode cX12_isShortWord 41 = .ok (.ireturn, 1) := by decide +kernel
set_option maxRecDepth 20000 in
theorem ggX12_parseRanged_X12_wrong : GoodIn wsX12_parseRanged wsX12_wrong := goodIn_r _ [8, 9, 10, 11, 28, 29, 30, 31, 32, 33, 34, 35, 36, 37, 38, 39, 40, 41, 42, 43, 44, 45, 46] rfl (by decide +kernel)
set_option maxRecDepth 20000 in
theorem gX12_parseRanged_X12_wrong : GoodIn wsX12_parseRanged (wsV RX12 187 RX12 yX12_wrong wsX12_wrong) := goodIn_app (goodIn_of _ (by decide +kernel)) ggX12_parseRanged_X12_wrong
set_option maxRecDepth 20000 in
theorem ggX12_parseRanged_X12_in : GoodIn wsX12_parseRanged wsX12_in := goodIn_r _ [14] rfl (by decide +kernel)
set_option maxRecDepth 20000 in
theorem gX12_parseRanged_X12_in : GoodIn wsX12_parseRanged (va_wsS RX12 87 yX12_in wsX12_in) := goodIn_app (goodIn_of _ (by decide +kernel)) ggX12_parseRanged_X12_in
set_option maxRecDepth 20000 in
theorem ggX12_parseRanged_X12_token : GoodIn wsX12_parseRanged wsX12_token := goodIn_r _ [18, 19, 20, 21, 10, 1, 2, 22, 23, 7, 24, 25, 26, 27, 28, 29, 30, 31, 32, 33, 34, 35, 36, 37, 38, 39, 40, 41, 42, 43, 44, 45, 46] rfl (by decide +kernel)
set_option maxRecDepth 20000 in
theorem gX12_parseRanged_X12_token : GoodIn wsX12_parseRanged (wsV RX12 180 RX12 yX12_token wsX12_token) := goodIn_app (goodIn_of _ (by decide +kernel)) ggX12_parseRanged_X12_token
theorem dX12_parseRanged_0 : decode cX12_parseRanged 0 = .ok (.aload_n 0, 1) := by decide +kernel
theorem dX12_parseRanged_1 : decode cX12_parseRanged 1 = .ok (.getfield 57, 3) := by decide +kernel
theorem dX12_parseRanged_4 : decode cX12_parseRanged 4 = .ok (.iconst 2, 1) := by decide +kernel
theorem dX12_parseRanged_5 : decode cX12_parseRanged 5 = .ok (.if_icmp .eq 9, 3) := by decide +kernel
theorem dX12_parseRanged_8 : decode cX12_parseRanged 8 = .ok (.aload_n 0, 1) := by decide +kernel
theorem dX12_parseRanged_9 : decode cX12_parseRanged 9 = .ok (.iconst 1, 1) := by decide +kernel
theorem dX12_parseRanged_10 : decode cX12_parseRanged 10 = .ok (.invokevirtual 187, 3) := by decide +kernel
theorem dX12_parseRanged_13 : decode cX12_parseRanged 13 = .ok (.ireturn, 1) := by decide +kernel
theorem dX12_parseRanged_14 : decode cX12_parseRanged 14 = .ok (.aload_n 0, 1) := by decide +kernel
theorem dX12_parseRanged_15 : decode cX12_parseRanged 15 = .ok (.getfield 63, 3) := by decide +kernel
theorem dX12_parseRanged_18 : decode cX12_parseRanged 18 = .ok (.iload_n 2, 1) := by decide +kernel
theorem dX12_parseRanged_19 : decode cX12_parseRanged 19 = .ok (.iload_n 3, 1) := by decide +kernel
theorem dX12_parseRanged_20 : decode cX12_parseRanged 20 = .ok (.invokestatic 87, 3) := by decide +kernel
theorem dX12_parseRanged_23 : decode cX12_parseRanged 23 = .ok (.ifCond .ne 9, 3) := by decide +kernel
theorem dX12_parseRanged_26 : decode cX12_parseRanged 26 = .ok (.aload_n 0, 1) := by decide +kernel
theorem dX12_parseRanged_27 : decode cX12_parseRanged 27 = .ok (.iconst 2, 1) := by decide +kernel
theorem dX12_parseRanged_28 : decode cX12_parseRanged 28 = .ok (.invokevirtual 187, 3) := by decide +kernel
theorem dX12_parseRanged_31 : decode cX12_parseRanged 31 = .ok (.ireturn, 1) := by decide +kernel
theorem dX12_parseRanged_32 : decode cX12_parseRanged 32 = .ok (.aload_n 0, 1) := by decide +kernel
theorem dX12_parseRanged_33 : decode cX12_parseRanged 33 = .ok (.getfield 13, 3) := by decide +kernel
theorem dX12_parseRanged_36 : decode cX12_parseRanged 36 = .ok (.iload_n 1, 1) := by decide +kernel
theorem dX12_parseRanged_37 : decode cX12_parseRanged 37 = .ok (.aload_n 0, 1) := by decide +kernel
theorem dX12_parseRanged_38 : decode cX12_parseRanged 38 = .ok (.getfield 63, 3) := by decide +kernel
theorem dX12_parseRanged_41 : decode cX12_parseRanged 41 = .ok (.iastore, 1) := by decide +kernel
theorem dX12_parseRanged_42 : decode cX12_parseRanged 42 = .ok (.aload_n 0, 1) := by decide +kernel
theorem dX12_parseRanged_43 : decode cX12_parseRanged 43 = .ok (.invokevirtual 180, 3) := by decide +kernel
theorem dX12_parseRanged_46 : decode cX12_parseRanged 46 = .ok (.iconst 1, 1) := by decide +kernel
theorem dX12_parseRanged_47 : decode cX12_parseRanged 47 = .ok (.ireturn, 1) := by decide +kernel
set_option maxRecDepth 20000 in
theorem ggX12_putName_X12_token : GoodIn wsX12_putName wsX12_token := goodIn_r _ [9, 2, 10, 4, 3, 11, 12, 13, 14, 8, 15, 16, 17, 18, 19, 20, 21, 22, 23, 24, 25, 26, 27, 28, 29, 30, 31, 32, 33, 34, 35, 36, 37] rfl (by decide +kernel)
set_option maxRecDepth 20000 in
theorem gX12_putName_X12_token : GoodIn wsX12_putName (wsV RX12 180 RX12 yX12_token wsX12_token) := goodIn_app (goodIn_of _ (by decide +kernel)) ggX12_putName_X12_token
theorem dX12_putName_0 : decode cX12_putName 0 = .ok (.aload_n 0, 1) := by decide +kernel
theorem dX12_putName_1 : decode cX12_putName 1 = .ok (.getfield 13, 3) := by decide +kernel
theorem dX12_putName_4 : decode cX12_putName 4 = .ok (.iload_n 1, 1) := by decide +kernel
theorem dX12_putName_5 : decode cX12_putName 5 = .ok (.aload_n 0, 1) := by decide +kernel
theorem dX12_putName_6 : decode cX12_putName 6 = .ok (.getfield 54, 3) := by decide +kernel
theorem dX12_putName_9 : decode cX12_putName 9 = .ok (.aload_n 0, 1) := by decide +kernel
theorem dX12_putName_10 : decode cX12_putName 10 = .ok (.getfield 60, 3) := by decide +kernel
theorem dX12_putName_13 : decode cX12_putName 13 = .ok (.isub, 1) := by decide +kernel
theorem dX12_putName_14 : decode cX12_putName 14 = .ok (.iastore, 1) := by decide +kernel
theorem dX12_putName_15 : decode cX12_putName 15 = .ok (.aload_n 0, 1) := by decide +kernel
theorem dX12_putName_16 : decode cX12_putName 16 = .ok (.getfield 60, 3) := by decide +kernel
theorem dX12_putName_19 : decode cX12_putName 19 = .ok (.istore_n 2, 1) := by decide +kernel
theorem dX12_putName_20 : decode cX12_putName 20 = .ok (.iload_n 2, 1) := by decide +kernel
theorem dX12_putName_21 : decode cX12_putName 21 = .ok (.aload_n 0, 1) := by decide +kernel
theorem dX12_putName_22 : decode cX12_putName 22 = .ok (.getfield 54, 3) := by decide +kernel
theorem dX12_putName_25 : decode cX12_putName 25 = .ok (.if_icmp .ge 30, 3) := by decide +kernel
theorem dX12_putName_28 : decode cX12_putName 28 = .ok (.aload_n 0, 1) := by decide +kernel
theorem dX12_putName_29 : decode cX12_putName 29 = .ok (.getfield 13, 3) := by decide +kernel
theorem dX12_putName_32 : decode cX12_putName 32 = .ok (.iload_n 1, 1) := by decide +kernel
theorem dX12_putName_33 : decode cX12_putName 33 = .ok (.iconst 1, 1) := by decide +kernel
theorem dX12_putName_34 : decode cX12_putName 34 = .ok (.iadd, 1) := by decide +kernel
theorem dX12_putName_35 : decode cX12_putName 35 = .ok (.iload_n 2, 1) := by decide +kernel
theorem dX12_putName_36 : decode cX12_putName 36 = .ok (.iadd, 1) := by decide +kernel
theorem dX12_putName_37 : decode cX12_putName 37 = .ok (.aload_n 0, 1) := by decide +kernel
theorem dX12_putName_38 : decode cX12_putName 38 = .ok (.getfield 60, 3) := by decide +kernel
theorem dX12_putName_41 : decode cX12_putName 41 = .ok (.isub, 1) := by decide +kernel
theorem dX12_putName_42 : decode cX12_putName 42 = .ok (.aload_n 0, 1) := by decide +kernel
theorem dX12_putName_43 : decode cX12_putName 43 = .ok (.getfield 24, 3) := by decide +kernel
theorem dX12_putName_46 : decode cX12_putName 46 = .ok (.iload_n 2, 1) := by decide +kernel
theorem dX12_putName_47 : decode cX12_putName 47 = .ok (.iaload, 1) := by decide +kernel
theorem dX12_putName_48 : decode cX12_putName 48 = .ok (.iastore, 1) := by decide +kernel
theorem dX12_putName_49 : decode cX12_putName 49 = .ok (.iinc 2 1, 3) := by decide +kernel
theorem dX12_putName_52 : decode cX12_putName 52 = .ok (.goto (-32), 3) := by decide +kernel
theorem dX12_putName_55 : decode cX12_putName 55 = .ok (.aload_n 0, 1) := by decide +kernel
theorem dX12_putName_56 : decode cX12_putName 56 = .ok (.invokevirtual 180, 3) := by decide +kernel
theorem dX12_putName_59 : decode cX12_putName 59 = .ok (.return_, 1) := by decide +kernel
set_option maxRecDepth 20000 in
theorem ggX12_parsePan_X12_wrong : GoodIn wsX12_parsePan wsX12_wrong := goodIn_r _ [8, 9, 2, 10, 52, 53, 54, 55, 56, 57, 58, 59, 60, 61, 62, 63, 64, 65, 66, 67, 68, 69, 70] rfl (by decide +kernel)
set_option maxRecDepth 20000 in
theorem gX12_parsePan_X12_wrong : GoodIn wsX12_parsePan (wsV RX12 187 RX12 yX12_wrong wsX12_wrong) := goodIn_app (goodIn_of _ (by decide +kernel)) ggX12_parsePan_X12_wrong
set_option maxRecDepth 20000 in
theorem ggX12_parsePan_X12_token : GoodIn wsX12_parsePan wsX12_token := goodIn_r _ [14, 3, 15, 16, 2, 17, 18, 19, 20, 7, 21, 22, 23, 24, 52, 53, 54, 55, 56, 57, 58, 59, 60, 61, 62, 63, 64, 65, 66, 67, 68, 69, 70] rfl (by decide +kernel)
set_option maxRecDepth 20000 in
theorem gX12_parsePan_X12_token : GoodIn wsX12_parsePan (wsV RX12 180 RX12 yX12_token wsX12_token) := goodIn_app (goodIn_of _ (by decide +kernel)) ggX12_parsePan_X12_token
set_option maxRecDepth 20000 in
theorem ggX12_parsePan_X12_isShortWord : GoodIn wsX12_parsePan wsX12_isShortWord := goodIn_r _ [28, 17, 3, 2, 4, 5, 6, 7, 8, 9, 10, 52, 53, 54, 55, 56, 57, 58, 59, 60, 61, 62, 63, 64, 65, 66, 67, 68, 69, 70] rfl (by decide +kernel)
set_option maxRecDepth 20000 in
theorem gX12_parsePan_X12_isShortWord : GoodIn wsX12_parsePan (wsV RX12 193 RX12 yX12_isShortWord wsX12_isShortWord) := goodIn_app (goodIn_of _ (by decide +kernel)) ggX12_parsePan_X12_isShortWord
set_option maxRecDepth 20000 in
theorem ggX12_parsePan_X12_panNamed : GoodIn wsX12_parsePan wsX12_panNamed := goodIn_r _ [32, 1, 33, 34, 35, 7, 36, 16, 52, 53, 54, 55, 56, 57, 58, 59, 60, 61, 62, 63, 64, 65, 66, 67, 68, 69, 70] rfl (by decide +kernel)
set_option maxRecDepth 20000 in
theorem gX12_parsePan_X12_panNamed : GoodIn wsX12_parsePan (wsV RX12 196 RX12 yX12_panNamed wsX12_panNamed) := goodIn_app (goodIn_of _ (by decide +kernel)) ggX12_parsePan_X12_panNamed
set_option maxRecDepth 20000 in
theorem ggX12_parsePan_X12_putName : GoodIn wsX12_parsePan wsX12_putName := goodIn_r _ [40, 1, 3, 2, 16, 11, 12, 13, 7, 14, 15, 17, 18, 19, 20, 21, 22, 23, 24, 52, 53, 54, 55, 56, 57, 58, 59, 60, 61, 62, 63, 64, 65, 66, 67, 68, 69, 70] rfl (by decide +kernel)
set_option maxRecDepth 20000 in
theorem gX12_parsePan_X12_putName : GoodIn wsX12_parsePan (wsV RX12 199 RX12 yX12_putName wsX12_putName) := goodIn_app (goodIn_of _ (by decide +kernel)) ggX12_parsePan_X12_putName
set_option maxRecDepth 20000 in
theorem ggX12_parsePan_X12_parseRanged : GoodIn wsX12_parsePan wsX12_parseRanged := goodIn_r _ [44, 17, 18, 1, 4, 5, 6, 7, 8, 9, 2, 10, 45, 46, 47, 11, 12, 13, 14, 3, 15, 16, 19, 20, 21, 22, 23, 24, 52, 53, 54, 55, 56, 57, 58, 59, 60, 61, 62, 63, 64, 65, 66, 67, 68, 69, 70] rfl (by decide +kernel)
set_option maxRecDepth 20000 in
theorem gX12_parsePan_X12_parseRanged : GoodIn wsX12_parsePan (wsV RX12 202 RX12 yX12_parseRanged wsX12_parseRanged) := goodIn_app (goodIn_of _ (by decide +kernel)) ggX12_parsePan_X12_parseRanged
set_option maxRecDepth 20000 in
theorem ggX12_parsePan_X12_semicolon : GoodIn wsX12_parsePan wsX12_semicolon := goodIn_r _ [51, 17, 4, 5, 6, 7, 8, 9, 2, 10, 11, 12, 13, 14, 3, 15, 16, 18, 19, 20, 21, 22, 23, 24, 52, 53, 54, 55, 56, 57, 58, 59, 60, 61, 62, 63, 64, 65, 66, 67, 68, 69, 70] rfl (by decide +kernel)
set_option maxRecDepth 20000 in
theorem gX12_parsePan_X12_semicolon : GoodIn wsX12_parsePan (wsV RX12 205 RX12 yX12_semicolon wsX12_semicolon) := goodIn_app (goodIn_of _ (by decide +kernel)) ggX12_parsePan_X12_semicolon
theorem dX12_parsePan_0 : decode cX12_parsePan 0 = .ok (.aload_n 0, 1) := by decide +kernel
theorem dX12_parsePan_1 : decode cX12_parsePan 1 = .ok (.getfield 13, 3) := by decide +kernel
theorem dX12_parsePan_4 : decode cX12_parsePan 4 = .ok (.bipush 12, 2) := by decide +kernel
theorem dX12_parsePan_6 : decode cX12_parsePan 6 = .ok (.iaload, 1) := by decide +kernel
theorem dX12_parsePan_7 : decode cX12_parsePan 7 = .ok (.iconst 4, 1) := by decide +kernel
theorem dX12_parsePan_8 : decode cX12_parsePan 8 = .ok (.if_icmp .ne 9, 3) := by decide +kernel
theorem dX12_parsePan_11 : decode cX12_parsePan 11 = .ok (.aload_n 0, 1) := by decide +kernel
theorem dX12_parsePan_12 : decode cX12_parsePan 12 = .ok (.iconst 5, 1) := by decide +kernel
theorem dX12_parsePan_13 : decode cX12_parsePan 13 = .ok (.invokevirtual 187, 3) := by decide +kernel
theorem dX12_parsePan_16 : decode cX12_parsePan 16 = .ok (.ireturn, 1) := by decide +kernel
theorem dX12_parsePan_17 : decode cX12_parsePan 17 = .ok (.aload_n 0, 1) := by decide +kernel
theorem dX12_parsePan_18 : decode cX12_parsePan 18 = .ok (.invokevirtual 180, 3) := by decide +kernel
theorem dX12_parsePan_21 : decode cX12_parsePan 21 = .ok (.aload_n 0, 1) := by decide +kernel
theorem dX12_parsePan_22 : decode cX12_parsePan 22 = .ok (.invokevirtual 193, 3) := by decide +kernel
theorem dX12_parsePan_25 : decode cX12_parsePan 25 = .ok (.ifCond .ne 5, 3) := by decide +kernel
theorem dX12_parsePan_28 : decode cX12_parsePan 28 = .ok (.iconst 0, 1) := by decide +kernel
theorem dX12_parsePan_29 : decode cX12_parsePan 29 = .ok (.ireturn, 1) := by decide +kernel
theorem dX12_parsePan_30 : decode cX12_parsePan 30 = .ok (.aload_n 0, 1) := by decide +kernel
theorem dX12_parsePan_31 : decode cX12_parsePan 31 = .ok (.aload_n 0, 1) := by decide +kernel
theorem dX12_parsePan_32 : decode cX12_parsePan 32 = .ok (.getfield 60, 3) := by decide +kernel
theorem dX12_parsePan_35 : decode cX12_parsePan 35 = .ok (.aload_n 0, 1) := by decide +kernel
theorem dX12_parsePan_36 : decode cX12_parsePan 36 = .ok (.getfield 54, 3) := by decide +kernel
theorem dX12_parsePan_39 : decode cX12_parsePan 39 = .ok (.aload_n 0, 1) := by decide +kernel
theorem dX12_parsePan_40 : decode cX12_parsePan 40 = .ok (.getfield 60, 3) := by decide +kernel
theorem dX12_parsePan_43 : decode cX12_parsePan 43 = .ok (.isub, 1) := by decide +kernel
theorem dX12_parsePan_44 : decode cX12_parsePan 44 = .ok (.invokevirtual 196, 3) := by decide +kernel
theorem dX12_parsePan_47 : decode cX12_parsePan 47 = .ok (.iconst (-1), 1) := by decide +kernel
theorem dX12_parsePan_48 : decode cX12_parsePan 48 = .ok (.if_icmp .eq 9, 3) := by decide +kernel
theorem dX12_parsePan_51 : decode cX12_parsePan 51 = .ok (.aload_n 0, 1) := by decide +kernel
theorem dX12_parsePan_52 : decode cX12_parsePan 52 = .ok (.iconst 3, 1) := by decide +kernel
theorem dX12_parsePan_53 : decode cX12_parsePan 53 = .ok (.invokevirtual 187, 3) := by decide +kernel
theorem dX12_parsePan_56 : decode cX12_parsePan 56 = .ok (.ireturn, 1) := by decide +kernel
theorem dX12_parsePan_57 : decode cX12_parsePan 57 = .ok (.bipush 14, 2) := by decide +kernel
theorem dX12_parsePan_59 : decode cX12_parsePan 59 = .ok (.aload_n 0, 1) := by decide +kernel
theorem dX12_parsePan_60 : decode cX12_parsePan 60 = .ok (.getfield 13, 3) := by decide +kernel
theorem dX12_parsePan_63 : decode cX12_parsePan 63 = .ok (.bipush 12, 2) := by decide +kernel
theorem dX12_parsePan_65 : decode cX12_parsePan 65 = .ok (.iaload, 1) := by decide +kernel
theorem dX12_parsePan_66 : decode cX12_parsePan 66 = .ok (.bipush 8, 2) := by decide +kernel
theorem dX12_parsePan_68 : decode cX12_parsePan 68 = .ok (.imul, 1) := by decide +kernel
theorem dX12_parsePan_69 : decode cX12_parsePan 69 = .ok (.iadd, 1) := by decide +kernel
theorem dX12_parsePan_70 : decode cX12_parsePan 70 = .ok (.istore_n 1, 1) := by decide +kernel
theorem dX12_parsePan_71 : decode cX12_parsePan 71 = .ok (.aload_n 0, 1) := by decide +kernel
theorem dX12_parsePan_72 : decode cX12_parsePan 72 = .ok (.iload_n 1, 1) := by decide +kernel
theorem dX12_parsePan_73 : decode cX12_parsePan 73 = .ok (.invokevirtual 199, 3) := by decide +kernel
theorem dX12_parsePan_76 : decode cX12_parsePan 76 = .ok (.aload_n 0, 1) := by decide +kernel
theorem dX12_parsePan_77 : decode cX12_parsePan 77 = .ok (.iload_n 1, 1) := by decide +kernel
theorem dX12_parsePan_78 : decode cX12_parsePan 78 = .ok (.bipush 7, 2) := by decide +kernel
theorem dX12_parsePan_80 : decode cX12_parsePan 80 = .ok (.iadd, 1) := by decide +kernel
theorem dX12_parsePan_81 : decode cX12_parsePan 81 = .ok (.iconst 1, 1) := by decide +kernel
theorem dX12_parsePan_82 : decode cX12_parsePan 82 = .ok (.iconst 5, 1) := by decide +kernel
theorem dX12_parsePan_83 : decode cX12_parsePan 83 = .ok (.invokevirtual 202, 3) := by decide +kernel
theorem dX12_parsePan_86 : decode cX12_parsePan 86 = .ok (.ifCond .eq 10, 3) := by decide +kernel
theorem dX12_parsePan_89 : decode cX12_parsePan 89 = .ok (.aload_n 0, 1) := by decide +kernel
theorem dX12_parsePan_90 : decode cX12_parsePan 90 = .ok (.invokevirtual 205, 3) := by decide +kernel
theorem dX12_parsePan_93 : decode cX12_parsePan 93 = .ok (.ifCond .ne 5, 3) := by decide +kernel
theorem dX12_parsePan_96 : decode cX12_parsePan 96 = .ok (.iconst 0, 1) := by decide +kernel
theorem dX12_parsePan_97 : decode cX12_parsePan 97 = .ok (.ireturn, 1) := by decide +kernel
theorem dX12_parsePan_98 : decode cX12_parsePan 98 = .ok (.aload_n 0, 1) := by decide +kernel
theorem dX12_parsePan_99 : decode cX12_parsePan 99 = .ok (.getfield 13, 3) := by decide +kernel
theorem dX12_parsePan_102 : decode cX12_parsePan 102 = .ok (.bipush 12, 2) := by decide +kernel
theorem dX12_parsePan_104 : decode cX12_parsePan 104 = .ok (.dup2, 1) := by decide +kernel
theorem dX12_parsePan_105 : decode cX12_parsePan 105 = .ok (.iaload, 1) := by decide +kernel
theorem dX12_parsePan_106 : decode cX12_parsePan 106 = .ok (.iconst 1, 1) := by decide +kernel
theorem dX12_parsePan_107 : decode cX12_parsePan 107 = .ok (.iadd, 1) := by decide +kernel
theorem dX12_parsePan_108 : decode cX12_parsePan 108 = .ok (.iastore, 1) := by decide +kernel
theorem dX12_parsePan_109 : decode cX12_parsePan 109 = .ok (.iconst 1, 1) := by decide +kernel
theorem dX12_parsePan_110 : decode cX12_parsePan 110 = .ok (.ireturn, 1) := by decide +kernel
set_option maxRecDepth 20000 in
theorem ggX12_parsePredecessor_X12_isShortWord : GoodIn wsX12_parsePredecessor wsX12_isShortWord := goodIn_r _ [8, 9, 2, 1, 10, 11, 12, 7, 13, 14, 15, 37, 38, 39, 40, 41, 42, 43, 44, 45, 46, 47, 48, 49, 50, 51, 52, 53, 54, 55] rfl (by decide +kernel)
set_option maxRecDepth 20000 in
theorem gX12_parsePredecessor_X12_isShortWord : GoodIn wsX12_parsePredecessor (wsV RX12 193 RX12 yX12_isShortWord wsX12_isShortWord) := goodIn_app (goodIn_of _ (by decide +kernel)) ggX12_parsePredecessor_X12_isShortWord
set_option maxRecDepth 20000 in
theorem ggX12_parsePredecessor_X12_stepNamed : GoodIn wsX12_parsePredecessor wsX12_stepNamed := goodIn_r _ [19, 3, 20, 21, 22, 7, 23, 24, 37, 38, 39, 40, 41, 42, 43, 44, 45, 46, 47, 48, 49, 50, 51, 52, 53, 54, 55] rfl (by decide +kernel)
set_option maxRecDepth 20000 in
theorem gX12_parsePredecessor_X12_stepNamed : GoodIn wsX12_parsePredecessor (wsV RX12 208 RX12 yX12_stepNamed wsX12_stepNamed) := goodIn_app (goodIn_of _ (by decide +kernel)) ggX12_parsePredecessor_X12_stepNamed
set_option maxRecDepth 20000 in
theorem ggX12_parsePredecessor_X12_wrong : GoodIn wsX12_parsePredecessor wsX12_wrong := goodIn_r _ [13, 14, 1, 15, 37, 38, 39, 40, 41, 42, 43, 44, 45, 46, 47, 48, 49, 50, 51, 52, 53, 54, 55] rfl (by decide +kernel)
set_option maxRecDepth 20000 in
theorem gX12_parsePredecessor_X12_wrong : GoodIn wsX12_parsePredecessor (wsV RX12 187 RX12 yX12_wrong wsX12_wrong) := goodIn_app (goodIn_of _ (by decide +kernel)) ggX12_parsePredecessor_X12_wrong
set_option maxRecDepth 20000 in
theorem ggX12_parsePredecessor_X12_token : GoodIn wsX12_parsePredecessor wsX12_token := goodIn_r _ [28, 2, 29, 24, 1, 9, 30, 31, 32, 7, 33, 34, 35, 36, 37, 38, 39, 40, 41, 42, 43, 44, 45, 46, 47, 48, 49, 50, 51, 52, 53, 54, 55] rfl (by decide +kernel)
set_option maxRecDepth 20000 in
theorem gX12_parsePredecessor_X12_token : GoodIn wsX12_parsePredecessor (wsV RX12 180 RX12 yX12_token wsX12_token) := goodIn_app (goodIn_of _ (by decide +kernel)) ggX12_parsePredecessor_X12_token
theorem dX12_parsePredecessor_0 : decode cX12_parsePredecessor 0 = .ok (.aload_n 0, 1) := by decide +kernel
theorem dX12_parsePredecessor_1 : decode cX12_parsePredecessor 1 = .ok (.invokevirtual 193, 3) := by decide +kernel
theorem dX12_parsePredecessor_4 : decode cX12_parsePredecessor 4 = .ok (.ifCond .ne 5, 3) := by decide +kernel
theorem dX12_parsePredecessor_7 : decode cX12_parsePredecessor 7 = .ok (.iconst 0, 1) := by decide +kernel
theorem dX12_parsePredecessor_8 : decode cX12_parsePredecessor 8 = .ok (.ireturn, 1) := by decide +kernel
theorem dX12_parsePredecessor_9 : decode cX12_parsePredecessor 9 = .ok (.aload_n 0, 1) := by decide +kernel
theorem dX12_parsePredecessor_10 : decode cX12_parsePredecessor 10 = .ok (.aload_n 0, 1) := by decide +kernel
theorem dX12_parsePredecessor_11 : decode cX12_parsePredecessor 11 = .ok (.getfield 60, 3) := by decide +kernel
theorem dX12_parsePredecessor_14 : decode cX12_parsePredecessor 14 = .ok (.aload_n 0, 1) := by decide +kernel
theorem dX12_parsePredecessor_15 : decode cX12_parsePredecessor 15 = .ok (.getfield 54, 3) := by decide +kernel
theorem dX12_parsePredecessor_18 : decode cX12_parsePredecessor 18 = .ok (.aload_n 0, 1) := by decide +kernel
theorem dX12_parsePredecessor_19 : decode cX12_parsePredecessor 19 = .ok (.getfield 60, 3) := by decide +kernel
theorem dX12_parsePredecessor_22 : decode cX12_parsePredecessor 22 = .ok (.isub, 1) := by decide +kernel
theorem dX12_parsePredecessor_23 : decode cX12_parsePredecessor 23 = .ok (.invokevirtual 208, 3) := by decide +kernel
theorem dX12_parsePredecessor_26 : decode cX12_parsePredecessor 26 = .ok (.istore_n 2, 1) := by decide +kernel
theorem dX12_parsePredecessor_27 : decode cX12_parsePredecessor 27 = .ok (.iload_n 2, 1) := by decide +kernel
theorem dX12_parsePredecessor_28 : decode cX12_parsePredecessor 28 = .ok (.iconst (-1), 1) := by decide +kernel
theorem dX12_parsePredecessor_29 : decode cX12_parsePredecessor 29 = .ok (.if_icmp .ne 9, 3) := by decide +kernel
theorem dX12_parsePredecessor_32 : decode cX12_parsePredecessor 32 = .ok (.aload_n 0, 1) := by decide +kernel
theorem dX12_parsePredecessor_33 : decode cX12_parsePredecessor 33 = .ok (.iconst 3, 1) := by decide +kernel
theorem dX12_parsePredecessor_34 : decode cX12_parsePredecessor 34 = .ok (.invokevirtual 187, 3) := by decide +kernel
theorem dX12_parsePredecessor_37 : decode cX12_parsePredecessor 37 = .ok (.ireturn, 1) := by decide +kernel
theorem dX12_parsePredecessor_38 : decode cX12_parsePredecessor 38 = .ok (.iconst 0, 1) := by decide +kernel
theorem dX12_parsePredecessor_39 : decode cX12_parsePredecessor 39 = .ok (.istore_n 3, 1) := by decide +kernel
theorem dX12_parsePredecessor_40 : decode cX12_parsePredecessor 40 = .ok (.iload_n 3, 1) := by decide +kernel
theorem dX12_parsePredecessor_41 : decode cX12_parsePredecessor 41 = .ok (.aload_n 0, 1) := by decide +kernel
theorem dX12_parsePredecessor_42 : decode cX12_parsePredecessor 42 = .ok (.getfield 13, 3) := by decide +kernel
theorem dX12_parsePredecessor_45 : decode cX12_parsePredecessor 45 = .ok (.iload_n 1, 1) := by decide +kernel
theorem dX12_parsePredecessor_46 : decode cX12_parsePredecessor 46 = .ok (.bipush 12, 2) := by decide +kernel
theorem dX12_parsePredecessor_48 : decode cX12_parsePredecessor 48 = .ok (.iadd, 1) := by decide +kernel
theorem dX12_parsePredecessor_49 : decode cX12_parsePredecessor 49 = .ok (.iaload, 1) := by decide +kernel
theorem dX12_parsePredecessor_50 : decode cX12_parsePredecessor 50 = .ok (.if_icmp .ge 30, 3) := by decide +kernel
theorem dX12_parsePredecessor_53 : decode cX12_parsePredecessor 53 = .ok (.aload_n 0, 1) := by decide +kernel
theorem dX12_parsePredecessor_54 : decode cX12_parsePredecessor 54 = .ok (.getfield 13, 3) := by decide +kernel
theorem dX12_parsePredecessor_57 : decode cX12_parsePredecessor 57 = .ok (.iload_n 1, 1) := by decide +kernel
theorem dX12_parsePredecessor_58 : decode cX12_parsePredecessor 58 = .ok (.bipush 13, 2) := by decide +kernel
theorem dX12_parsePredecessor_60 : decode cX12_parsePredecessor 60 = .ok (.iadd, 1) := by decide +kernel
theorem dX12_parsePredecessor_61 : decode cX12_parsePredecessor 61 = .ok (.iload_n 3, 1) := by decide +kernel
theorem dX12_parsePredecessor_62 : decode cX12_parsePredecessor 62 = .ok (.iadd, 1) := by decide +kernel
theorem dX12_parsePredecessor_63 : decode cX12_parsePredecessor 63 = .ok (.iaload, 1) := by decide +kernel
theorem dX12_parsePredecessor_64 : decode cX12_parsePredecessor 64 = .ok (.iload_n 2, 1) := by decide +kernel
theorem dX12_parsePredecessor_65 : decode cX12_parsePredecessor 65 = .ok (.if_icmp .ne 9, 3) := by decide +kernel
theorem dX12_parsePredecessor_68 : decode cX12_parsePredecessor 68 = .ok (.aload_n 0, 1) := by decide +kernel
theorem dX12_parsePredecessor_69 : decode cX12_parsePredecessor 69 = .ok (.iconst 4, 1) := by decide +kernel
theorem dX12_parsePredecessor_70 : decode cX12_parsePredecessor 70 = .ok (.invokevirtual 187, 3) := by decide +kernel
theorem dX12_parsePredecessor_73 : decode cX12_parsePredecessor 73 = .ok (.ireturn, 1) := by decide +kernel
theorem dX12_parsePredecessor_74 : decode cX12_parsePredecessor 74 = .ok (.iinc 3 1, 3) := by decide +kernel
theorem dX12_parsePredecessor_77 : decode cX12_parsePredecessor 77 = .ok (.goto (-37), 3) := by decide +kernel
theorem dX12_parsePredecessor_80 : decode cX12_parsePredecessor 80 = .ok (.aload_n 0, 1) := by decide +kernel
theorem dX12_parsePredecessor_81 : decode cX12_parsePredecessor 81 = .ok (.getfield 13, 3) := by decide +kernel
theorem dX12_parsePredecessor_84 : decode cX12_parsePredecessor 84 = .ok (.iload_n 1, 1) := by decide +kernel
theorem dX12_parsePredecessor_85 : decode cX12_parsePredecessor 85 = .ok (.bipush 12, 2) := by decide +kernel
theorem dX12_parsePredecessor_87 : decode cX12_parsePredecessor 87 = .ok (.iadd, 1) := by decide +kernel
theorem dX12_parsePredecessor_88 : decode cX12_parsePredecessor 88 = .ok (.iaload, 1) := by decide +kernel
theorem dX12_parsePredecessor_89 : decode cX12_parsePredecessor 89 = .ok (.iconst 4, 1) := by decide +kernel
theorem dX12_parsePredecessor_90 : decode cX12_parsePredecessor 90 = .ok (.if_icmp .ne 9, 3) := by decide +kernel
theorem dX12_parsePredecessor_93 : decode cX12_parsePredecessor 93 = .ok (.aload_n 0, 1) := by decide +kernel
theorem dX12_parsePredecessor_94 : decode cX12_parsePredecessor 94 = .ok (.iconst 5, 1) := by decide +kernel
theorem dX12_parsePredecessor_95 : decode cX12_parsePredecessor 95 = .ok (.invokevirtual 187, 3) := by decide +kernel
theorem dX12_parsePredecessor_98 : decode cX12_parsePredecessor 98 = .ok (.ireturn, 1) := by decide +kernel
theorem dX12_parsePredecessor_99 : decode cX12_parsePredecessor 99 = .ok (.aload_n 0, 1) := by decide +kernel
theorem dX12_parsePredecessor_100 : decode cX12_parsePredecessor 100 = .ok (.getfield 13, 3) := by decide +kernel
theorem dX12_parsePredecessor_103 : decode cX12_parsePredecessor 103 = .ok (.iload_n 1, 1) := by decide +kernel
theorem dX12_parsePredecessor_104 : decode cX12_parsePredecessor 104 = .ok (.bipush 13, 2) := by decide +kernel
theorem dX12_parsePredecessor_106 : decode cX12_parsePredecessor 106 = .ok (.iadd, 1) := by decide +kernel
theorem dX12_parsePredecessor_107 : decode cX12_parsePredecessor 107 = .ok (.aload_n 0, 1) := by decide +kernel
theorem dX12_parsePredecessor_108 : decode cX12_parsePredecessor 108 = .ok (.getfield 13, 3) := by decide +kernel
theorem dX12_parsePredecessor_111 : decode cX12_parsePredecessor 111 = .ok (.iload_n 1, 1) := by decide +kernel
theorem dX12_parsePredecessor_112 : decode cX12_parsePredecessor 112 = .ok (.bipush 12, 2) := by decide +kernel
theorem dX12_parsePredecessor_114 : decode cX12_parsePredecessor 114 = .ok (.iadd, 1) := by decide +kernel
theorem dX12_parsePredecessor_115 : decode cX12_parsePredecessor 115 = .ok (.iaload, 1) := by decide +kernel
theorem dX12_parsePredecessor_116 : decode cX12_parsePredecessor 116 = .ok (.iadd, 1) := by decide +kernel
theorem dX12_parsePredecessor_117 : decode cX12_parsePredecessor 117 = .ok (.iload_n 2, 1) := by decide +kernel
theorem dX12_parsePredecessor_118 : decode cX12_parsePredecessor 118 = .ok (.iastore, 1) := by decide +kernel
theorem dX12_parsePredecessor_119 : decode cX12_parsePredecessor 119 = .ok (.aload_n 0, 1) := by decide +kernel
theorem dX12_parsePredecessor_120 : decode cX12_parsePredecessor 120 = .ok (.getfield 13, 3) := by decide +kernel
theorem dX12_parsePredecessor_123 : decode cX12_parsePredecessor 123 = .ok (.iload_n 1, 1) := by decide +kernel
theorem dX12_parsePredecessor_124 : decode cX12_parsePredecessor 124 = .ok (.bipush 12, 2) := by decide +kernel
theorem dX12_parsePredecessor_126 : decode cX12_parsePredecessor 126 = .ok (.iadd, 1) := by decide +kernel
theorem dX12_parsePredecessor_127 : decode cX12_parsePredecessor 127 = .ok (.dup2, 1) := by decide +kernel
theorem dX12_parsePredecessor_128 : decode cX12_parsePredecessor 128 = .ok (.iaload, 1) := by decide +kernel
theorem dX12_parsePredecessor_129 : decode cX12_parsePredecessor 129 = .ok (.iconst 1, 1) := by decide +kernel
theorem dX12_parsePredecessor_130 : decode cX12_parsePredecessor 130 = .ok (.iadd, 1) := by decide +kernel
theorem dX12_parsePredecessor_131 : decode cX12_parsePredecessor 131 = .ok (.iastore, 1) := by decide +kernel
theorem dX12_parsePredecessor_132 : decode cX12_parsePredecessor 132 = .ok (.aload_n 0, 1) := by decide +kernel
theorem dX12_parsePredecessor_133 : decode cX12_parsePredecessor 133 = .ok (.invokevirtual 180, 3) := by decide +kernel
theorem dX12_parsePredecessor_136 : decode cX12_parsePredecessor 136 = .ok (.iconst 1, 1) := by decide +kernel
theorem dX12_parsePredecessor_137 : decode cX12_parsePredecessor 137 = .ok (.ireturn, 1) := by decide +kernel
set_option maxRecDepth 20000 in
theorem ggX12_parsePanType_X12_takes : GoodIn wsX12_parsePanType wsX12_takes := goodIn_r _ [8, 9, 10, 11, 7, 12, 13, 3, 2, 14, 15, 16, 17, 18, 19, 20, 21, 22, 23, 24, 25, 26, 27, 28, 29, 30, 31, 32, 33, 34, 35, 36, 37, 38, 39, 40, 41, 42, 43, 44, 45, 46, 47, 48, 49, 50, 51, 52, 53, 54, 55, 56, 57, 58, 59, 60, 61, 62, 63, 64, 65, 66, 67, 68, 69, 70, 71, 72, 73, 74, 75, 94, 95, 96, 97, 98, 99, 100, 101, 102, 103, 104, 105, 106, 107, 108, 109, 110, 111, 112] rfl (by decide +kernel)
set_option maxRecDepth 20000 in
theorem gX12_parsePanType_X12_takes : GoodIn wsX12_parsePanType (wsV RX12 212 RX12 yX12_takes wsX12_takes) := goodIn_app (goodIn_of _ (by decide +kernel)) ggX12_parsePanType_X12_takes
set_option maxRecDepth 20000 in
theorem ggX12_parsePanType_X12_isShortWord : GoodIn wsX12_parsePanType wsX12_isShortWord := goodIn_r _ [79, 13, 3, 2, 80, 81, 82, 7, 83, 84, 85, 94, 95, 96, 97, 98, 99, 100, 101, 102, 103, 104, 105, 106, 107, 108, 109, 110, 111, 112] rfl (by decide +kernel)
set_option maxRecDepth 20000 in
theorem gX12_parsePanType_X12_isShortWord : GoodIn wsX12_parsePanType (wsV RX12 193 RX12 yX12_isShortWord wsX12_isShortWord) := goodIn_app (goodIn_of _ (by decide +kernel)) ggX12_parsePanType_X12_isShortWord
set_option maxRecDepth 20000 in
theorem ggX12_parsePanType_X12_panNamed : GoodIn wsX12_parsePanType wsX12_panNamed := goodIn_r _ [89, 1, 90, 91, 92, 7, 93, 14, 94, 95, 96, 97, 98, 99, 100, 101, 102, 103, 104, 105, 106, 107, 108, 109, 110, 111, 112] rfl (by decide +kernel)
set_option maxRecDepth 20000 in
theorem gX12_parsePanType_X12_panNamed : GoodIn wsX12_parsePanType (wsV RX12 196 RX12 yX12_panNamed wsX12_panNamed) := goodIn_app (goodIn_of _ (by decide +kernel)) ggX12_parsePanType_X12_panNamed
set_option maxRecDepth 20000 in
theorem ggX12_parsePanType_X12_wrong : GoodIn wsX12_parsePanType wsX12_wrong := goodIn_r _ [83, 84, 2, 85, 94, 95, 96, 97, 98, 99, 100, 101, 102, 103, 104, 105, 106, 107, 108, 109, 110, 111, 112] rfl (by decide +kernel)
set_option maxRecDepth 20000 in
theorem gX12_parsePanType_X12_wrong : GoodIn wsX12_parsePanType (wsV RX12 187 RX12 yX12_wrong wsX12_wrong) := goodIn_app (goodIn_of _ (by decide +kernel)) ggX12_parsePanType_X12_wrong
set_option maxRecDepth 20000 in
theorem ggX12_parsePanType_X12_token : GoodIn wsX12_parsePanType wsX12_token := goodIn_r _ [67, 3, 68, 14, 2, 13, 69, 70, 71, 7, 72, 73, 74, 75, 94, 95, 96, 97, 98, 99, 100, 101, 102, 103, 104, 105, 106, 107, 108, 109, 110, 111, 112] rfl (by decide +kernel)
set_option maxRecDepth 20000 in
theorem gX12_parsePanType_X12_token : GoodIn wsX12_parsePanType (wsV RX12 180 RX12 yX12_token wsX12_token) := goodIn_app (goodIn_of _ (by decide +kernel)) ggX12_parsePanType_X12_token
theorem dX12_parsePanType_0 : decode cX12_parsePanType 0 = .ok (.aload_n 0, 1) := by decide +kernel
theorem dX12_parsePanType_1 : decode cX12_parsePanType 1 = .ok (.getfield 13, 3) := by decide +kernel
theorem dX12_parsePanType_4 : decode cX12_parsePanType 4 = .ok (.iload_n 1, 1) := by decide +kernel
theorem dX12_parsePanType_5 : decode cX12_parsePanType 5 = .ok (.bipush 9, 2) := by decide +kernel
theorem dX12_parsePanType_7 : decode cX12_parsePanType 7 = .ok (.iadd, 1) := by decide +kernel
theorem dX12_parsePanType_8 : decode cX12_parsePanType 8 = .ok (.iconst (-1), 1) := by decide +kernel
theorem dX12_parsePanType_9 : decode cX12_parsePanType 9 = .ok (.iastore, 1) := by decide +kernel
theorem dX12_parsePanType_10 : decode cX12_parsePanType 10 = .ok (.aload_n 0, 1) := by decide +kernel
theorem dX12_parsePanType_11 : decode cX12_parsePanType 11 = .ok (.ldc 211, 2) := by decide +kernel
theorem dX12_parsePanType_13 : decode cX12_parsePanType 13 = .ok (.invokevirtual 212, 3) := by decide +kernel
theorem dX12_parsePanType_16 : decode cX12_parsePanType 16 = .ok (.ifCond .ne 5, 3) := by decide +kernel
theorem dX12_parsePanType_19 : decode cX12_parsePanType 19 = .ok (.iconst 1, 1) := by decide +kernel
theorem dX12_parsePanType_20 : decode cX12_parsePanType 20 = .ok (.ireturn, 1) := by decide +kernel
theorem dX12_parsePanType_21 : decode cX12_parsePanType 21 = .ok (.aload_n 0, 1) := by decide +kernel
theorem dX12_parsePanType_22 : decode cX12_parsePanType 22 = .ok (.invokevirtual 193, 3) := by decide +kernel
theorem dX12_parsePanType_25 : decode cX12_parsePanType 25 = .ok (.ifCond .ne 5, 3) := by decide +kernel
theorem dX12_parsePanType_28 : decode cX12_parsePanType 28 = .ok (.iconst 0, 1) := by decide +kernel
theorem dX12_parsePanType_29 : decode cX12_parsePanType 29 = .ok (.ireturn, 1) := by decide +kernel
theorem dX12_parsePanType_30 : decode cX12_parsePanType 30 = .ok (.aload_n 0, 1) := by decide +kernel
theorem dX12_parsePanType_31 : decode cX12_parsePanType 31 = .ok (.getfield 13, 3) := by decide +kernel
theorem dX12_parsePanType_34 : decode cX12_parsePanType 34 = .ok (.iload_n 1, 1) := by decide +kernel
theorem dX12_parsePanType_35 : decode cX12_parsePanType 35 = .ok (.bipush 9, 2) := by decide +kernel
theorem dX12_parsePanType_37 : decode cX12_parsePanType 37 = .ok (.iadd, 1) := by decide +kernel
theorem dX12_parsePanType_38 : decode cX12_parsePanType 38 = .ok (.aload_n 0, 1) := by decide +kernel
theorem dX12_parsePanType_39 : decode cX12_parsePanType 39 = .ok (.aload_n 0, 1) := by decide +kernel
theorem dX12_parsePanType_40 : decode cX12_parsePanType 40 = .ok (.getfield 60, 3) := by decide +kernel
theorem dX12_parsePanType_43 : decode cX12_parsePanType 43 = .ok (.aload_n 0, 1) := by decide +kernel
theorem dX12_parsePanType_44 : decode cX12_parsePanType 44 = .ok (.getfield 54, 3) := by decide +kernel
theorem dX12_parsePanType_47 : decode cX12_parsePanType 47 = .ok (.aload_n 0, 1) := by decide +kernel
theorem dX12_parsePanType_48 : decode cX12_parsePanType 48 = .ok (.getfield 60, 3) := by decide +kernel
theorem dX12_parsePanType_51 : decode cX12_parsePanType 51 = .ok (.isub, 1) := by decide +kernel
theorem dX12_parsePanType_52 : decode cX12_parsePanType 52 = .ok (.invokevirtual 196, 3) := by decide +kernel
theorem dX12_parsePanType_55 : decode cX12_parsePanType 55 = .ok (.iastore, 1) := by decide +kernel
theorem dX12_parsePanType_56 : decode cX12_parsePanType 56 = .ok (.aload_n 0, 1) := by decide +kernel
theorem dX12_parsePanType_57 : decode cX12_parsePanType 57 = .ok (.getfield 13, 3) := by decide +kernel
theorem dX12_parsePanType_60 : decode cX12_parsePanType 60 = .ok (.iload_n 1, 1) := by decide +kernel
theorem dX12_parsePanType_61 : decode cX12_parsePanType 61 = .ok (.bipush 9, 2) := by decide +kernel
theorem dX12_parsePanType_63 : decode cX12_parsePanType 63 = .ok (.iadd, 1) := by decide +kernel
theorem dX12_parsePanType_64 : decode cX12_parsePanType 64 = .ok (.iaload, 1) := by decide +kernel
theorem dX12_parsePanType_65 : decode cX12_parsePanType 65 = .ok (.iconst (-1), 1) := by decide +kernel
theorem dX12_parsePanType_66 : decode cX12_parsePanType 66 = .ok (.if_icmp .ne 9, 3) := by decide +kernel
theorem dX12_parsePanType_69 : decode cX12_parsePanType 69 = .ok (.aload_n 0, 1) := by decide +kernel
theorem dX12_parsePanType_70 : decode cX12_parsePanType 70 = .ok (.iconst 3, 1) := by decide +kernel
theorem dX12_parsePanType_71 : decode cX12_parsePanType 71 = .ok (.invokevirtual 187, 3) := by decide +kernel
theorem dX12_parsePanType_74 : decode cX12_parsePanType 74 = .ok (.ireturn, 1) := by decide +kernel
theorem dX12_parsePanType_75 : decode cX12_parsePanType 75 = .ok (.aload_n 0, 1) := by decide +kernel
theorem dX12_parsePanType_76 : decode cX12_parsePanType 76 = .ok (.invokevirtual 180, 3) := by decide +kernel
theorem dX12_parsePanType_79 : decode cX12_parsePanType 79 = .ok (.iconst 1, 1) := by decide +kernel
theorem dX12_parsePanType_80 : decode cX12_parsePanType 80 = .ok (.ireturn, 1) := by decide +kernel
set_option maxRecDepth 20000 in
theorem ggX12_parseStep_X12_wrong : GoodIn wsX12_parseStep wsX12_wrong := goodIn_r _ [9, 10, 2, 11, 121, 122, 123, 124, 125, 126, 127, 128, 129, 130, 131, 132, 133, 134, 135, 136, 137, 138, 139] rfl (by decide +kernel)
set_option maxRecDepth 20000 in
theorem gX12_parseStep_X12_wrong : GoodIn wsX12_parseStep (wsV RX12 187 RX12 yX12_wrong wsX12_wrong) := goodIn_app (goodIn_of _ (by decide +kernel)) ggX12_parseStep_X12_wrong
set_option maxRecDepth 20000 in
theorem ggX12_parseStep_X12_token : GoodIn wsX12_parseStep wsX12_token := goodIn_r _ [15, 3, 16, 17, 2, 4, 18, 19, 20, 8, 21, 22, 23, 24, 121, 122, 123, 124, 125, 126, 127, 128, 129, 130, 131, 132, 133, 134, 135, 136, 137, 138, 139] rfl (by decide +kernel)
set_option maxRecDepth 20000 in
theorem gX12_parseStep_X12_token : GoodIn wsX12_parseStep (wsV RX12 180 RX12 yX12_token wsX12_token) := goodIn_app (goodIn_of _ (by decide +kernel)) ggX12_parseStep_X12_token
set_option maxRecDepth 20000 in
theorem ggX12_parseStep_X12_isShortWord : GoodIn wsX12_parseStep wsX12_isShortWord := goodIn_r _ [28, 4, 3, 2, 5, 6, 7, 8, 9, 10, 11, 121, 122, 123, 124, 125, 126, 127, 128, 129, 130, 131, 132, 133, 134, 135, 136, 137, 138, 139] rfl (by decide +kernel)
set_option maxRecDepth 20000 in
theorem gX12_parseStep_X12_isShortWord : GoodIn wsX12_parseStep (wsV RX12 193 RX12 yX12_isShortWord wsX12_isShortWord) := goodIn_app (goodIn_of _ (by decide +kernel)) ggX12_parseStep_X12_isShortWord
set_option maxRecDepth 20000 in
theorem ggX12_parseStep_X12_stepNamed : GoodIn wsX12_parseStep wsX12_stepNamed := goodIn_r _ [32, 1, 33, 34, 35, 8, 36, 17, 121, 122, 123, 124, 125, 126, 127, 128, 129, 130, 131, 132, 133, 134, 135, 136, 137, 138, 139] rfl (by decide +kernel)
set_option maxRecDepth 20000 in
theorem gX12_parseStep_X12_stepNamed : GoodIn wsX12_parseStep (wsV RX12 208 RX12 yX12_stepNamed wsX12_stepNamed) := goodIn_app (goodIn_of _ (by decide +kernel)) ggX12_parseStep_X12_stepNamed
set_option maxRecDepth 20000 in
theorem ggX12_parseStep_X12_putName : GoodIn wsX12_parseStep wsX12_putName := goodIn_r _ [40, 1, 3, 2, 17, 12, 13, 14, 8, 15, 16, 4, 18, 19, 20, 21, 22, 23, 24, 121, 122, 123, 124, 125, 126, 127, 128, 129, 130, 131, 132, 133, 134, 135, 136, 137, 138, 139] rfl (by decide +kernel)
set_option maxRecDepth 20000 in
theorem gX12_parseStep_X12_putName : GoodIn wsX12_parseStep (wsV RX12 199 RX12 yX12_putName wsX12_putName) := goodIn_app (goodIn_of _ (by decide +kernel)) ggX12_parseStep_X12_putName
set_option maxRecDepth 20000 in
theorem ggX12_parseStep_X12_parseRanged : GoodIn wsX12_parseStep wsX12_parseRanged := goodIn_r _ [44, 4, 18, 1, 5, 6, 7, 8, 9, 10, 2, 11, 45, 46, 47, 12, 13, 14, 15, 3, 16, 17, 19, 20, 21, 22, 23, 24, 121, 122, 123, 124, 125, 126, 127, 128, 129, 130, 131, 132, 133, 134, 135, 136, 137, 138, 139] rfl (by decide +kernel)
set_option maxRecDepth 20000 in
theorem gX12_parseStep_X12_parseRanged : GoodIn wsX12_parseStep (wsV RX12 202 RX12 yX12_parseRanged wsX12_parseRanged) := goodIn_app (goodIn_of _ (by decide +kernel)) ggX12_parseStep_X12_parseRanged
set_option maxRecDepth 20000 in
theorem ggX12_parseStep_X12_parsePanType : GoodIn wsX12_parseStep wsX12_parsePanType := goodIn_r _ [51, 1, 2, 3, 52, 53, 54, 8, 55, 56, 57, 58, 59, 4, 17, 60, 61, 62, 63, 64, 65, 66, 67, 68, 69, 70, 71, 72, 73, 74, 75, 76, 77, 78, 79, 80, 81, 82, 83, 84, 85, 86, 87, 88, 89, 90, 91, 92, 93, 94, 95, 96, 97, 98, 99, 100, 101, 102, 103, 104, 105, 106, 107, 108, 12, 13, 14, 15, 16, 18, 19, 20, 21, 22, 23, 24, 25, 26, 27, 28, 5, 6, 7, 9, 10, 11, 109, 110, 111, 112, 33, 34, 35, 36, 121, 122, 123, 124, 125, 126, 127, 128, 129, 130, 131, 132, 133, 134, 135, 136, 137, 138, 139] rfl (by decide +kernel)
set_option maxRecDepth 20000 in
theorem gX12_parseStep_X12_parsePanType : GoodIn wsX12_parseStep (wsV RX12 215 RX12 yX12_parsePanType wsX12_parsePanType) := goodIn_app (goodIn_of _ (by decide +kernel)) ggX12_parseStep_X12_parsePanType
set_option maxRecDepth 20000 in
theorem ggX12_parseStep_X12_takes : GoodIn wsX12_parseStep wsX12_takes := goodIn_r _ [55, 56, 57, 58, 8, 59, 4, 3, 2, 17, 60, 61, 62, 63, 64, 65, 66, 67, 68, 69, 70, 71, 72, 73, 74, 75, 76, 77, 78, 79, 80, 81, 82, 83, 84, 85, 86, 87, 88, 89, 90, 91, 92, 93, 94, 95, 96, 97, 98, 99, 100, 101, 102, 103, 104, 105, 106, 107, 108, 12, 13, 14, 15, 16, 18, 19, 20, 21, 22, 23, 24, 121, 122, 123, 124, 125, 126, 127, 128, 129, 130, 131, 132, 133, 134, 135, 136, 137, 138, 139] rfl (by decide +kernel)
set_option maxRecDepth 20000 in
theorem gX12_parseStep_X12_takes : GoodIn wsX12_parseStep (wsV RX12 212 RX12 yX12_takes wsX12_takes) := goodIn_app (goodIn_of _ (by decide +kernel)) ggX12_parseStep_X12_takes
set_option maxRecDepth 20000 in
theorem ggX12_parseStep_X12_parsePredecessor : GoodIn wsX12_parseStep wsX12_parsePredecessor := goodIn_r _ [116, 2, 3, 1, 25, 26, 27, 8, 28, 4, 5, 6, 7, 9, 10, 11, 29, 30, 31, 32, 33, 34, 35, 36, 17, 12, 13, 14, 15, 16, 18, 19, 20, 21, 22, 23, 24, 121, 122, 123, 124, 125, 126, 127, 128, 129, 130, 131, 132, 133, 134, 135, 136, 137, 138, 139] rfl (by decide +kernel)
set_option maxRecDepth 20000 in
theorem gX12_parseStep_X12_parsePredecessor : GoodIn wsX12_parseStep (wsV RX12 224 RX12 yX12_parsePredecessor wsX12_parsePredecessor) := goodIn_app (goodIn_of _ (by decide +kernel)) ggX12_parseStep_X12_parsePredecessor
set_option maxRecDepth 20000 in
theorem ggX12_parseStep_X12_semicolon : GoodIn wsX12_parseStep wsX12_semicolon := goodIn_r _ [120, 4, 5, 6, 7, 8, 9, 10, 2, 11, 12, 13, 14, 15, 3, 16, 17, 18, 19, 20, 21, 22, 23, 24, 121, 122, 123, 124, 125, 126, 127, 128, 129, 130, 131, 132, 133, 134, 135, 136, 137, 138, 139] rfl (by decide +kernel)
set_option maxRecDepth 20000 in
theorem gX12_parseStep_X12_semicolon : GoodIn wsX12_parseStep (wsV RX12 205 RX12 yX12_semicolon wsX12_semicolon) := goodIn_app (goodIn_of _ (by decide +kernel)) ggX12_parseStep_X12_semicolon
theorem dX12_parseStep_0 : decode cX12_parseStep 0 = .ok (.aload_n 0, 1) := by decide +kernel
theorem dX12_parseStep_1 : decode cX12_parseStep 1 = .ok (.getfield 13, 3) := by decide +kernel
theorem dX12_parseStep_4 : decode cX12_parseStep 4 = .ok (.bipush 13, 2) := by decide +kernel
theorem dX12_parseStep_6 : decode cX12_parseStep 6 = .ok (.iaload, 1) := by decide +kernel
theorem dX12_parseStep_7 : decode cX12_parseStep 7 = .ok (.bipush 14, 2) := by decide +kernel
theorem dX12_parseStep_9 : decode cX12_parseStep 9 = .ok (.if_icmp .ne 9, 3) := by decide +kernel
theorem dX12_parseStep_12 : decode cX12_parseStep 12 = .ok (.aload_n 0, 1) := by decide +kernel
theorem dX12_parseStep_13 : decode cX12_parseStep 13 = .ok (.iconst 5, 1) := by decide +kernel
theorem dX12_parseStep_14 : decode cX12_parseStep 14 = .ok (.invokevirtual 187, 3) := by decide +kernel
theorem dX12_parseStep_17 : decode cX12_parseStep 17 = .ok (.ireturn, 1) := by decide +kernel
theorem dX12_parseStep_18 : decode cX12_parseStep 18 = .ok (.aload_n 0, 1) := by decide +kernel
theorem dX12_parseStep_19 : decode cX12_parseStep 19 = .ok (.invokevirtual 180, 3) := by decide +kernel
theorem dX12_parseStep_22 : decode cX12_parseStep 22 = .ok (.aload_n 0, 1) := by decide +kernel
theorem dX12_parseStep_23 : decode cX12_parseStep 23 = .ok (.invokevirtual 193, 3) := by decide +kernel
theorem dX12_parseStep_26 : decode cX12_parseStep 26 = .ok (.ifCond .ne 5, 3) := by decide +kernel
theorem dX12_parseStep_29 : decode cX12_parseStep 29 = .ok (.iconst 0, 1) := by decide +kernel
theorem dX12_parseStep_30 : decode cX12_parseStep 30 = .ok (.ireturn, 1) := by decide +kernel
theorem dX12_parseStep_31 : decode cX12_parseStep 31 = .ok (.aload_n 0, 1) := by decide +kernel
theorem dX12_parseStep_32 : decode cX12_parseStep 32 = .ok (.aload_n 0, 1) := by decide +kernel
theorem dX12_parseStep_33 : decode cX12_parseStep 33 = .ok (.getfield 60, 3) := by decide +kernel
theorem dX12_parseStep_36 : decode cX12_parseStep 36 = .ok (.aload_n 0, 1) := by decide +kernel
theorem dX12_parseStep_37 : decode cX12_parseStep 37 = .ok (.getfield 54, 3) := by decide +kernel
theorem dX12_parseStep_40 : decode cX12_parseStep 40 = .ok (.aload_n 0, 1) := by decide +kernel
theorem dX12_parseStep_41 : decode cX12_parseStep 41 = .ok (.getfield 60, 3) := by decide +kernel
theorem dX12_parseStep_44 : decode cX12_parseStep 44 = .ok (.isub, 1) := by decide +kernel
theorem dX12_parseStep_45 : decode cX12_parseStep 45 = .ok (.invokevirtual 208, 3) := by decide +kernel
theorem dX12_parseStep_48 : decode cX12_parseStep 48 = .ok (.iconst (-1), 1) := by decide +kernel
theorem dX12_parseStep_49 : decode cX12_parseStep 49 = .ok (.if_icmp .eq 9, 3) := by decide +kernel
theorem dX12_parseStep_52 : decode cX12_parseStep 52 = .ok (.aload_n 0, 1) := by decide +kernel
theorem dX12_parseStep_53 : decode cX12_parseStep 53 = .ok (.iconst 3, 1) := by decide +kernel
theorem dX12_parseStep_54 : decode cX12_parseStep 54 = .ok (.invokevirtual 187, 3) := by decide +kernel
theorem dX12_parseStep_57 : decode cX12_parseStep 57 = .ok (.ireturn, 1) := by decide +kernel
theorem dX12_parseStep_58 : decode cX12_parseStep 58 = .ok (.bipush 46, 2) := by decide +kernel
theorem dX12_parseStep_60 : decode cX12_parseStep 60 = .ok (.aload_n 0, 1) := by decide +kernel
theorem dX12_parseStep_61 : decode cX12_parseStep 61 = .ok (.getfield 13, 3) := by decide +kernel
theorem dX12_parseStep_64 : decode cX12_parseStep 64 = .ok (.bipush 13, 2) := by decide +kernel
theorem dX12_parseStep_66 : decode cX12_parseStep 66 = .ok (.iaload, 1) := by decide +kernel
theorem dX12_parseStep_67 : decode cX12_parseStep 67 = .ok (.bipush 24, 2) := by decide +kernel
theorem dX12_parseStep_69 : decode cX12_parseStep 69 = .ok (.imul, 1) := by decide +kernel
theorem dX12_parseStep_70 : decode cX12_parseStep 70 = .ok (.iadd, 1) := by decide +kernel
theorem dX12_parseStep_71 : decode cX12_parseStep 71 = .ok (.istore_n 1, 1) := by decide +kernel
theorem dX12_parseStep_72 : decode cX12_parseStep 72 = .ok (.iconst 0, 1) := by decide +kernel
theorem dX12_parseStep_73 : decode cX12_parseStep 73 = .ok (.istore_n 2, 1) := by decide +kernel
theorem dX12_parseStep_74 : decode cX12_parseStep 74 = .ok (.iload_n 2, 1) := by decide +kernel
theorem dX12_parseStep_75 : decode cX12_parseStep 75 = .ok (.bipush 24, 2) := by decide +kernel
theorem dX12_parseStep_77 : decode cX12_parseStep 77 = .ok (.if_icmp .ge 18, 3) := by decide +kernel
theorem dX12_parseStep_80 : decode cX12_parseStep 80 = .ok (.aload_n 0, 1) := by decide +kernel
theorem dX12_parseStep_81 : decode cX12_parseStep 81 = .ok (.getfield 13, 3) := by decide +kernel
theorem dX12_parseStep_84 : decode cX12_parseStep 84 = .ok (.iload_n 1, 1) := by decide +kernel
theorem dX12_parseStep_85 : decode cX12_parseStep 85 = .ok (.iload_n 2, 1) := by decide +kernel
theorem dX12_parseStep_86 : decode cX12_parseStep 86 = .ok (.iadd, 1) := by decide +kernel
theorem dX12_parseStep_87 : decode cX12_parseStep 87 = .ok (.iconst 0, 1) := by decide +kernel
theorem dX12_parseStep_88 : decode cX12_parseStep 88 = .ok (.iastore, 1) := by decide +kernel
theorem dX12_parseStep_89 : decode cX12_parseStep 89 = .ok (.iinc 2 1, 3) := by decide +kernel
theorem dX12_parseStep_92 : decode cX12_parseStep 92 = .ok (.goto (-18), 3) := by decide +kernel
theorem dX12_parseStep_95 : decode cX12_parseStep 95 = .ok (.aload_n 0, 1) := by decide +kernel
theorem dX12_parseStep_96 : decode cX12_parseStep 96 = .ok (.iload_n 1, 1) := by decide +kernel
theorem dX12_parseStep_97 : decode cX12_parseStep 97 = .ok (.invokevirtual 199, 3) := by decide +kernel
theorem dX12_parseStep_100 : decode cX12_parseStep 100 = .ok (.aload_n 0, 1) := by decide +kernel
theorem dX12_parseStep_101 : decode cX12_parseStep 101 = .ok (.iload_n 1, 1) := by decide +kernel
theorem dX12_parseStep_102 : decode cX12_parseStep 102 = .ok (.bipush 7, 2) := by decide +kernel
theorem dX12_parseStep_104 : decode cX12_parseStep 104 = .ok (.iadd, 1) := by decide +kernel
theorem dX12_parseStep_105 : decode cX12_parseStep 105 = .ok (.iconst 1, 1) := by decide +kernel
theorem dX12_parseStep_106 : decode cX12_parseStep 106 = .ok (.bipush 60, 2) := by decide +kernel
theorem dX12_parseStep_108 : decode cX12_parseStep 108 = .ok (.invokevirtual 202, 3) := by decide +kernel
theorem dX12_parseStep_111 : decode cX12_parseStep 111 = .ok (.ifCond .eq 25, 3) := by decide +kernel
theorem dX12_parseStep_114 : decode cX12_parseStep 114 = .ok (.aload_n 0, 1) := by decide +kernel
theorem dX12_parseStep_115 : decode cX12_parseStep 115 = .ok (.iload_n 1, 1) := by decide +kernel
theorem dX12_parseStep_116 : decode cX12_parseStep 116 = .ok (.bipush 8, 2) := by decide +kernel
theorem dX12_parseStep_118 : decode cX12_parseStep 118 = .ok (.iadd, 1) := by decide +kernel
theorem dX12_parseStep_119 : decode cX12_parseStep 119 = .ok (.iconst 0, 1) := by decide +kernel
theorem dX12_parseStep_120 : decode cX12_parseStep 120 = .ok (.bipush 9, 2) := by decide +kernel
theorem dX12_parseStep_122 : decode cX12_parseStep 122 = .ok (.invokevirtual 202, 3) := by decide +kernel
theorem dX12_parseStep_125 : decode cX12_parseStep 125 = .ok (.ifCond .eq 11, 3) := by decide +kernel
theorem dX12_parseStep_128 : decode cX12_parseStep 128 = .ok (.aload_n 0, 1) := by decide +kernel
theorem dX12_parseStep_129 : decode cX12_parseStep 129 = .ok (.iload_n 1, 1) := by decide +kernel
theorem dX12_parseStep_130 : decode cX12_parseStep 130 = .ok (.invokevirtual 215, 3) := by decide +kernel
theorem dX12_parseStep_133 : decode cX12_parseStep 133 = .ok (.ifCond .ne 5, 3) := by decide +kernel
theorem dX12_parseStep_136 : decode cX12_parseStep 136 = .ok (.iconst 0, 1) := by decide +kernel
theorem dX12_parseStep_137 : decode cX12_parseStep 137 = .ok (.ireturn, 1) := by decide +kernel
theorem dX12_parseStep_138 : decode cX12_parseStep 138 = .ok (.aload_n 0, 1) := by decide +kernel
theorem dX12_parseStep_139 : decode cX12_parseStep 139 = .ok (.getfield 13, 3) := by decide +kernel
theorem dX12_parseStep_142 : decode cX12_parseStep 142 = .ok (.iload_n 1, 1) := by decide +kernel
theorem dX12_parseStep_143 : decode cX12_parseStep 143 = .ok (.bipush 10, 2) := by decide +kernel
theorem dX12_parseStep_145 : decode cX12_parseStep 145 = .ok (.iadd, 1) := by decide +kernel
theorem dX12_parseStep_146 : decode cX12_parseStep 146 = .ok (.aload_n 0, 1) := by decide +kernel
theorem dX12_parseStep_147 : decode cX12_parseStep 147 = .ok (.ldc 218, 2) := by decide +kernel
theorem dX12_parseStep_149 : decode cX12_parseStep 149 = .ok (.invokevirtual 212, 3) := by decide +kernel
theorem dX12_parseStep_152 : decode cX12_parseStep 152 = .ok (.ifCond .eq 7, 3) := by decide +kernel
theorem dX12_parseStep_155 : decode cX12_parseStep 155 = .ok (.iconst 1, 1) := by decide +kernel
theorem dX12_parseStep_156 : decode cX12_parseStep 156 = .ok (.goto 4, 3) := by decide +kernel
theorem dX12_parseStep_159 : decode cX12_parseStep 159 = .ok (.iconst 0, 1) := by decide +kernel
theorem dX12_parseStep_160 : decode cX12_parseStep 160 = .ok (.iastore, 1) := by decide +kernel
theorem dX12_parseStep_161 : decode cX12_parseStep 161 = .ok (.aload_n 0, 1) := by decide +kernel
theorem dX12_parseStep_162 : decode cX12_parseStep 162 = .ok (.getfield 13, 3) := by decide +kernel
theorem dX12_parseStep_165 : decode cX12_parseStep 165 = .ok (.iload_n 1, 1) := by decide +kernel
theorem dX12_parseStep_166 : decode cX12_parseStep 166 = .ok (.bipush 11, 2) := by decide +kernel
theorem dX12_parseStep_168 : decode cX12_parseStep 168 = .ok (.iadd, 1) := by decide +kernel
theorem dX12_parseStep_169 : decode cX12_parseStep 169 = .ok (.aload_n 0, 1) := by decide +kernel
theorem dX12_parseStep_170 : decode cX12_parseStep 170 = .ok (.ldc 220, 2) := by decide +kernel
theorem dX12_parseStep_172 : decode cX12_parseStep 172 = .ok (.invokevirtual 212, 3) := by decide +kernel
theorem dX12_parseStep_175 : decode cX12_parseStep 175 = .ok (.ifCond .eq 7, 3) := by decide +kernel
theorem dX12_parseStep_178 : decode cX12_parseStep 178 = .ok (.iconst 1, 1) := by decide +kernel
theorem dX12_parseStep_179 : decode cX12_parseStep 179 = .ok (.goto 4, 3) := by decide +kernel
theorem dX12_parseStep_182 : decode cX12_parseStep 182 = .ok (.iconst 0, 1) := by decide +kernel
theorem dX12_parseStep_183 : decode cX12_parseStep 183 = .ok (.iastore, 1) := by decide +kernel
theorem dX12_parseStep_184 : decode cX12_parseStep 184 = .ok (.aload_n 0, 1) := by decide +kernel
theorem dX12_parseStep_185 : decode cX12_parseStep 185 = .ok (.ldc 222, 2) := by decide +kernel
theorem dX12_parseStep_187 : decode cX12_parseStep 187 = .ok (.invokevirtual 212, 3) := by decide +kernel
theorem dX12_parseStep_190 : decode cX12_parseStep 190 = .ok (.ifCond .eq 31, 3) := by decide +kernel
theorem dX12_parseStep_193 : decode cX12_parseStep 193 = .ok (.aload_n 0, 1) := by decide +kernel
theorem dX12_parseStep_194 : decode cX12_parseStep 194 = .ok (.iload_n 1, 1) := by decide +kernel
theorem dX12_parseStep_195 : decode cX12_parseStep 195 = .ok (.invokevirtual 224, 3) := by decide +kernel
theorem dX12_parseStep_198 : decode cX12_parseStep 198 = .ok (.ifCond .ne 5, 3) := by decide +kernel
theorem dX12_parseStep_201 : decode cX12_parseStep 201 = .ok (.iconst 0, 1) := by decide +kernel
theorem dX12_parseStep_202 : decode cX12_parseStep 202 = .ok (.ireturn, 1) := by decide +kernel
theorem dX12_parseStep_203 : decode cX12_parseStep 203 = .ok (.aload_n 0, 1) := by decide +kernel
theorem dX12_parseStep_204 : decode cX12_parseStep 204 = .ok (.getfield 57, 3) := by decide +kernel
theorem dX12_parseStep_207 : decode cX12_parseStep 207 = .ok (.iconst 1, 1) := by decide +kernel
theorem dX12_parseStep_208 : decode cX12_parseStep 208 = .ok (.if_icmp .ne 13, 3) := by decide +kernel
theorem dX12_parseStep_211 : decode cX12_parseStep 211 = .ok (.aload_n 0, 1) := by decide +kernel
theorem dX12_parseStep_212 : decode cX12_parseStep 212 = .ok (.iload_n 1, 1) := by decide +kernel
theorem dX12_parseStep_213 : decode cX12_parseStep 213 = .ok (.invokevirtual 224, 3) := by decide +kernel
theorem dX12_parseStep_216 : decode cX12_parseStep 216 = .ok (.ifCond .ne (-13), 3) := by decide +kernel
theorem dX12_parseStep_219 : decode cX12_parseStep 219 = .ok (.iconst 0, 1) := by decide +kernel
theorem dX12_parseStep_220 : decode cX12_parseStep 220 = .ok (.ireturn, 1) := by decide +kernel
theorem dX12_parseStep_221 : decode cX12_parseStep 221 = .ok (.aload_n 0, 1) := by decide +kernel
theorem dX12_parseStep_222 : decode cX12_parseStep 222 = .ok (.invokevirtual 205, 3) := by decide +kernel
theorem dX12_parseStep_225 : decode cX12_parseStep 225 = .ok (.ifCond .ne 5, 3) := by decide +kernel
theorem dX12_parseStep_228 : decode cX12_parseStep 228 = .ok (.iconst 0, 1) := by decide +kernel
theorem dX12_parseStep_229 : decode cX12_parseStep 229 = .ok (.ireturn, 1) := by decide +kernel
theorem dX12_parseStep_230 : decode cX12_parseStep 230 = .ok (.aload_n 0, 1) := by decide +kernel
theorem dX12_parseStep_231 : decode cX12_parseStep 231 = .ok (.getfield 13, 3) := by decide +kernel
theorem dX12_parseStep_234 : decode cX12_parseStep 234 = .ok (.bipush 13, 2) := by decide +kernel
theorem dX12_parseStep_236 : decode cX12_parseStep 236 = .ok (.dup2, 1) := by decide +kernel
theorem dX12_parseStep_237 : decode cX12_parseStep 237 = .ok (.iaload, 1) := by decide +kernel
theorem dX12_parseStep_238 : decode cX12_parseStep 238 = .ok (.iconst 1, 1) := by decide +kernel
theorem dX12_parseStep_239 : decode cX12_parseStep 239 = .ok (.iadd, 1) := by decide +kernel
theorem dX12_parseStep_240 : decode cX12_parseStep 240 = .ok (.iastore, 1) := by decide +kernel
theorem dX12_parseStep_241 : decode cX12_parseStep 241 = .ok (.iconst 1, 1) := by decide +kernel
theorem dX12_parseStep_242 : decode cX12_parseStep 242 = .ok (.ireturn, 1) := by decide +kernel
set_option maxRecDepth 20000 in
theorem ggX12_parseSetup_X12_isWord : GoodIn wsX12_parseSetup wsX12_isWord := goodIn_r _ [7, 2, 8, 9, 10, 11, 12, 13, 14, 15, 16, 17, 18, 19, 20, 21, 22, 23, 24, 25, 26, 27, 28, 29, 30, 31, 32, 33, 34, 35, 36, 37, 38, 39, 40, 41, 42, 43, 44, 45, 46, 47, 48, 49, 50, 51, 52, 53, 54, 55, 56, 57, 58, 59, 129, 130, 131, 132, 133, 134, 135, 136, 137, 138, 139, 140, 141, 142, 143, 144, 145, 146, 147] rfl (by decide +kernel)
set_option maxRecDepth 20000 in
theorem gX12_parseSetup_X12_isWord : GoodIn wsX12_parseSetup (wsV RX12 183 RX12 yX12_isWord wsX12_isWord) := goodIn_app (goodIn_of _ (by decide +kernel)) ggX12_parseSetup_X12_isWord
set_option maxRecDepth 20000 in
theorem ggX12_parseSetup_X12_wrong : GoodIn wsX12_parseSetup wsX12_wrong := goodIn_r _ [63, 64, 9, 65, 129, 130, 131, 132, 133, 134, 135, 136, 137, 138, 139, 140, 141, 142, 143, 144, 145, 146, 147] rfl (by decide +kernel)
set_option maxRecDepth 20000 in
theorem gX12_parseSetup_X12_wrong : GoodIn wsX12_parseSetup (wsV RX12 187 RX12 yX12_wrong wsX12_wrong) := goodIn_app (goodIn_of _ (by decide +kernel)) ggX12_parseSetup_X12_wrong
set_option maxRecDepth 20000 in
theorem ggX12_parseSetup_X12_token : GoodIn wsX12_parseSetup wsX12_token := goodIn_r _ [69, 8, 70, 10, 9, 2, 71, 72, 73, 6, 74, 75, 76, 77, 129, 130, 131, 132, 133, 134, 135, 136, 137, 138, 139, 140, 141, 142, 143, 144, 145, 146, 147] rfl (by decide +kernel)
set_option maxRecDepth 20000 in
theorem gX12_parseSetup_X12_token : GoodIn wsX12_parseSetup (wsV RX12 180 RX12 yX12_token wsX12_token) := goodIn_app (goodIn_of _ (by decide +kernel)) ggX12_parseSetup_X12_token
set_option maxRecDepth 20000 in
theorem ggX12_parseSetup_X12_parseRanged : GoodIn wsX12_parseSetup wsX12_parseRanged := goodIn_r _ [81, 2, 71, 1, 60, 61, 62, 6, 63, 64, 9, 65, 82, 83, 84, 66, 67, 68, 69, 8, 70, 10, 72, 73, 74, 75, 76, 77, 129, 130, 131, 132, 133, 134, 135, 136, 137, 138, 139, 140, 141, 142, 143, 144, 145, 146, 147] rfl (by decide +kernel)
set_option maxRecDepth 20000 in
theorem gX12_parseSetup_X12_parseRanged : GoodIn wsX12_parseSetup (wsV RX12 202 RX12 yX12_parseRanged wsX12_parseRanged) := goodIn_app (goodIn_of _ (by decide +kernel)) ggX12_parseSetup_X12_parseRanged
set_option maxRecDepth 20000 in
theorem ggX12_parseSetup_X12_semicolon : GoodIn wsX12_parseSetup wsX12_semicolon := goodIn_r _ [88, 2, 60, 61, 62, 6, 63, 64, 9, 65, 66, 67, 68, 69, 8, 70, 10, 71, 72, 73, 74, 75, 76, 77, 129, 130, 131, 132, 133, 134, 135, 136, 137, 138, 139, 140, 141, 142, 143, 144, 145, 146, 147] rfl (by decide +kernel)
set_option maxRecDepth 20000 in
theorem gX12_parseSetup_X12_semicolon : GoodIn wsX12_parseSetup (wsV RX12 205 RX12 yX12_semicolon wsX12_semicolon) := goodIn_app (goodIn_of _ (by decide +kernel)) ggX12_parseSetup_X12_semicolon
set_option maxRecDepth 20000 in
theorem ggX12_parseSetup_X12_parsePan : GoodIn wsX12_parseSetup wsX12_parsePan := goodIn_r _ [92, 1, 9, 8, 60, 61, 62, 6, 63, 64, 65, 66, 67, 68, 69, 70, 10, 2, 71, 72, 73, 74, 75, 76, 77, 93, 94, 95, 96, 97, 98, 99, 100, 101, 102, 103, 104, 105, 106, 107, 108, 78, 79, 80, 81, 82, 83, 84, 85, 86, 87, 88, 129, 130, 131, 132, 133, 134, 135, 136, 137, 138, 139, 140, 141, 142, 143, 144, 145, 146, 147] rfl (by decide +kernel)
set_option maxRecDepth 20000 in
theorem gX12_parseSetup_X12_parsePan : GoodIn wsX12_parseSetup (wsV RX12 231 RX12 yX12_parsePan wsX12_parsePan) := goodIn_app (goodIn_of _ (by decide +kernel)) ggX12_parseSetup_X12_parsePan
set_option maxRecDepth 20000 in
theorem ggX12_parseSetup_X12_parseStep : GoodIn wsX12_parseSetup wsX12_parseStep := goodIn_r _ [112, 1, 9, 8, 2, 60, 61, 62, 6, 63, 64, 65, 66, 67, 68, 69, 70, 10, 71, 72, 73, 74, 75, 76, 77, 93, 94, 95, 96, 113, 114, 115, 116, 101, 102, 103, 104, 105, 106, 107, 108, 78, 79, 80, 81, 82, 83, 84, 117, 118, 119, 120, 121, 122, 123, 124, 3, 4, 5, 7, 11, 12, 13, 14, 15, 16, 17, 18, 19, 20, 21, 22, 23, 24, 25, 26, 27, 28, 29, 30, 31, 32, 33, 34, 35, 36, 37, 38, 39, 40, 41, 42, 43, 44, 45, 46, 47, 48, 49, 50, 51, 52, 53, 54, 55, 56, 57, 58, 59, 97, 98, 99, 100, 125, 126, 127, 128, 85, 86, 87, 88, 129, 130, 131, 132, 133, 134, 135, 136, 137, 138, 139, 140, 141, 142, 143, 144, 145, 146, 147] rfl (by decide +kernel)
set_option maxRecDepth 20000 in
theorem gX12_parseSetup_X12_parseStep : GoodIn wsX12_parseSetup (wsV RX12 236 RX12 yX12_parseStep wsX12_parseStep) := goodIn_app (goodIn_of _ (by decide +kernel)) ggX12_parseSetup_X12_parseStep
theorem dX12_parseSetup_0 : decode cX12_parseSetup 0 = .ok (.iconst 0, 1) := by decide +kernel
theorem dX12_parseSetup_1 : decode cX12_parseSetup 1 = .ok (.istore_n 1, 1) := by decide +kernel
theorem dX12_parseSetup_2 : decode cX12_parseSetup 2 = .ok (.iload_n 1, 1) := by decide +kernel
theorem dX12_parseSetup_3 : decode cX12_parseSetup 3 = .ok (.sipush 382, 3) := by decide +kernel
theorem dX12_parseSetup_6 : decode cX12_parseSetup 6 = .ok (.if_icmp .ge 16, 3) := by decide +kernel
theorem dX12_parseSetup_9 : decode cX12_parseSetup 9 = .ok (.aload_n 0, 1) := by decide +kernel
theorem dX12_parseSetup_10 : decode cX12_parseSetup 10 = .ok (.getfield 13, 3) := by decide +kernel
theorem dX12_parseSetup_13 : decode cX12_parseSetup 13 = .ok (.iload_n 1, 1) := by decide +kernel
theorem dX12_parseSetup_14 : decode cX12_parseSetup 14 = .ok (.iconst 0, 1) := by decide +kernel
theorem dX12_parseSetup_15 : decode cX12_parseSetup 15 = .ok (.iastore, 1) := by decide +kernel
theorem dX12_parseSetup_16 : decode cX12_parseSetup 16 = .ok (.iinc 1 1, 3) := by decide +kernel
theorem dX12_parseSetup_19 : decode cX12_parseSetup 19 = .ok (.goto (-17), 3) := by decide +kernel
theorem dX12_parseSetup_22 : decode cX12_parseSetup 22 = .ok (.aload_n 0, 1) := by decide +kernel
theorem dX12_parseSetup_23 : decode cX12_parseSetup 23 = .ok (.ldc 227, 2) := by decide +kernel
theorem dX12_parseSetup_25 : decode cX12_parseSetup 25 = .ok (.invokevirtual 183, 3) := by decide +kernel
theorem dX12_parseSetup_28 : decode cX12_parseSetup 28 = .ok (.ifCond .ne 9, 3) := by decide +kernel
theorem dX12_parseSetup_31 : decode cX12_parseSetup 31 = .ok (.aload_n 0, 1) := by decide +kernel
theorem dX12_parseSetup_32 : decode cX12_parseSetup 32 = .ok (.iconst 1, 1) := by decide +kernel
theorem dX12_parseSetup_33 : decode cX12_parseSetup 33 = .ok (.invokevirtual 187, 3) := by decide +kernel
theorem dX12_parseSetup_36 : decode cX12_parseSetup 36 = .ok (.ireturn, 1) := by decide +kernel
theorem dX12_parseSetup_37 : decode cX12_parseSetup 37 = .ok (.aload_n 0, 1) := by decide +kernel
theorem dX12_parseSetup_38 : decode cX12_parseSetup 38 = .ok (.invokevirtual 180, 3) := by decide +kernel
theorem dX12_parseSetup_41 : decode cX12_parseSetup 41 = .ok (.aload_n 0, 1) := by decide +kernel
theorem dX12_parseSetup_42 : decode cX12_parseSetup 42 = .ok (.iconst 0, 1) := by decide +kernel
theorem dX12_parseSetup_43 : decode cX12_parseSetup 43 = .ok (.iconst 1, 1) := by decide +kernel
theorem dX12_parseSetup_44 : decode cX12_parseSetup 44 = .ok (.iconst 4, 1) := by decide +kernel
theorem dX12_parseSetup_45 : decode cX12_parseSetup 45 = .ok (.invokevirtual 202, 3) := by decide +kernel
theorem dX12_parseSetup_48 : decode cX12_parseSetup 48 = .ok (.ifCond .eq 48, 3) := by decide +kernel
theorem dX12_parseSetup_51 : decode cX12_parseSetup 51 = .ok (.aload_n 0, 1) := by decide +kernel
theorem dX12_parseSetup_52 : decode cX12_parseSetup 52 = .ok (.iconst 1, 1) := by decide +kernel
theorem dX12_parseSetup_53 : decode cX12_parseSetup 53 = .ok (.iconst 0, 1) := by decide +kernel
theorem dX12_parseSetup_54 : decode cX12_parseSetup 54 = .ok (.bipush 30, 2) := by decide +kernel
theorem dX12_parseSetup_56 : decode cX12_parseSetup 56 = .ok (.invokevirtual 202, 3) := by decide +kernel
theorem dX12_parseSetup_59 : decode cX12_parseSetup 59 = .ok (.ifCond .eq 37, 3) := by decide +kernel
theorem dX12_parseSetup_62 : decode cX12_parseSetup 62 = .ok (.aload_n 0, 1) := by decide +kernel
theorem dX12_parseSetup_63 : decode cX12_parseSetup 63 = .ok (.iconst 2, 1) := by decide +kernel
theorem dX12_parseSetup_64 : decode cX12_parseSetup 64 = .ok (.iconst 0, 1) := by decide +kernel
theorem dX12_parseSetup_65 : decode cX12_parseSetup 65 = .ok (.bipush 99, 2) := by decide +kernel
theorem dX12_parseSetup_67 : decode cX12_parseSetup 67 = .ok (.invokevirtual 202, 3) := by decide +kernel
theorem dX12_parseSetup_70 : decode cX12_parseSetup 70 = .ok (.ifCond .eq 26, 3) := by decide +kernel
theorem dX12_parseSetup_73 : decode cX12_parseSetup 73 = .ok (.aload_n 0, 1) := by decide +kernel
theorem dX12_parseSetup_74 : decode cX12_parseSetup 74 = .ok (.iconst 3, 1) := by decide +kernel
theorem dX12_parseSetup_75 : decode cX12_parseSetup 75 = .ok (.aload_n 0, 1) := by decide +kernel
theorem dX12_parseSetup_76 : decode cX12_parseSetup 76 = .ok (.getfield 13, 3) := by decide +kernel
theorem dX12_parseSetup_79 : decode cX12_parseSetup 79 = .ok (.iconst 2, 1) := by decide +kernel
theorem dX12_parseSetup_80 : decode cX12_parseSetup 80 = .ok (.iaload, 1) := by decide +kernel
theorem dX12_parseSetup_81 : decode cX12_parseSetup 81 = .ok (.bipush 99, 2) := by decide +kernel
theorem dX12_parseSetup_83 : decode cX12_parseSetup 83 = .ok (.invokevirtual 202, 3) := by decide +kernel
theorem dX12_parseSetup_86 : decode cX12_parseSetup 86 = .ok (.ifCond .eq 10, 3) := by decide +kernel
theorem dX12_parseSetup_89 : decode cX12_parseSetup 89 = .ok (.aload_n 0, 1) := by decide +kernel
theorem dX12_parseSetup_90 : decode cX12_parseSetup 90 = .ok (.invokevirtual 205, 3) := by decide +kernel
theorem dX12_parseSetup_93 : decode cX12_parseSetup 93 = .ok (.ifCond .ne 5, 3) := by decide +kernel
theorem dX12_parseSetup_96 : decode cX12_parseSetup 96 = .ok (.iconst 0, 1) := by decide +kernel
theorem dX12_parseSetup_97 : decode cX12_parseSetup 97 = .ok (.ireturn, 1) := by decide +kernel
theorem dX12_parseSetup_98 : decode cX12_parseSetup 98 = .ok (.aload_n 0, 1) := by decide +kernel
theorem dX12_parseSetup_99 : decode cX12_parseSetup 99 = .ok (.ldc 229, 2) := by decide +kernel
theorem dX12_parseSetup_101 : decode cX12_parseSetup 101 = .ok (.invokevirtual 183, 3) := by decide +kernel
theorem dX12_parseSetup_104 : decode cX12_parseSetup 104 = .ok (.ifCond .eq 12, 3) := by decide +kernel
theorem dX12_parseSetup_107 : decode cX12_parseSetup 107 = .ok (.aload_n 0, 1) := by decide +kernel
theorem dX12_parseSetup_108 : decode cX12_parseSetup 108 = .ok (.invokevirtual 231, 3) := by decide +kernel
theorem dX12_parseSetup_111 : decode cX12_parseSetup 111 = .ok (.ifCond .ne (-13), 3) := by decide +kernel
theorem dX12_parseSetup_114 : decode cX12_parseSetup 114 = .ok (.iconst 0, 1) := by decide +kernel
theorem dX12_parseSetup_115 : decode cX12_parseSetup 115 = .ok (.ireturn, 1) := by decide +kernel
theorem dX12_parseSetup_116 : decode cX12_parseSetup 116 = .ok (.aload_n 0, 1) := by decide +kernel
theorem dX12_parseSetup_117 : decode cX12_parseSetup 117 = .ok (.ldc 234, 2) := by decide +kernel
theorem dX12_parseSetup_119 : decode cX12_parseSetup 119 = .ok (.invokevirtual 183, 3) := by decide +kernel
theorem dX12_parseSetup_122 : decode cX12_parseSetup 122 = .ok (.ifCond .ne 9, 3) := by decide +kernel
theorem dX12_parseSetup_125 : decode cX12_parseSetup 125 = .ok (.aload_n 0, 1) := by decide +kernel
theorem dX12_parseSetup_126 : decode cX12_parseSetup 126 = .ok (.iconst 1, 1) := by decide +kernel
theorem dX12_parseSetup_127 : decode cX12_parseSetup 127 = .ok (.invokevirtual 187, 3) := by decide +kernel
theorem dX12_parseSetup_130 : decode cX12_parseSetup 130 = .ok (.ireturn, 1) := by decide +kernel
theorem dX12_parseSetup_131 : decode cX12_parseSetup 131 = .ok (.aload_n 0, 1) := by decide +kernel
theorem dX12_parseSetup_132 : decode cX12_parseSetup 132 = .ok (.ldc 234, 2) := by decide +kernel
theorem dX12_parseSetup_134 : decode cX12_parseSetup 134 = .ok (.invokevirtual 183, 3) := by decide +kernel
theorem dX12_parseSetup_137 : decode cX12_parseSetup 137 = .ok (.ifCond .eq 12, 3) := by decide +kernel
theorem dX12_parseSetup_140 : decode cX12_parseSetup 140 = .ok (.aload_n 0, 1) := by decide +kernel
theorem dX12_parseSetup_141 : decode cX12_parseSetup 141 = .ok (.invokevirtual 236, 3) := by decide +kernel
theorem dX12_parseSetup_144 : decode cX12_parseSetup 144 = .ok (.ifCond .ne (-13), 3) := by decide +kernel
theorem dX12_parseSetup_147 : decode cX12_parseSetup 147 = .ok (.iconst 0, 1) := by decide +kernel
theorem dX12_parseSetup_148 : decode cX12_parseSetup 148 = .ok (.ireturn, 1) := by decide +kernel
theorem dX12_parseSetup_149 : decode cX12_parseSetup 149 = .ok (.aload_n 0, 1) := by decide +kernel
theorem dX12_parseSetup_150 : decode cX12_parseSetup 150 = .ok (.getfield 57, 3) := by decide +kernel
theorem dX12_parseSetup_153 : decode cX12_parseSetup 153 = .ok (.ifCond .eq 11, 3) := by decide +kernel
theorem dX12_parseSetup_156 : decode cX12_parseSetup 156 = .ok (.aload_n 0, 1) := by decide +kernel
theorem dX12_parseSetup_157 : decode cX12_parseSetup 157 = .ok (.iconst 1, 1) := by decide +kernel
theorem dX12_parseSetup_158 : decode cX12_parseSetup 158 = .ok (.invokevirtual 187, 3) := by decide +kernel
theorem dX12_parseSetup_161 : decode cX12_parseSetup 161 = .ok (.ifCond .eq 7, 3) := by decide +kernel
theorem dX12_parseSetup_164 : decode cX12_parseSetup 164 = .ok (.iconst 1, 1) := by decide +kernel
theorem dX12_parseSetup_165 : decode cX12_parseSetup 165 = .ok (.goto 4, 3) := by decide +kernel
theorem dX12_parseSetup_168 : decode cX12_parseSetup 168 = .ok (.iconst 0, 1) := by decide +kernel
theorem dX12_parseSetup_169 : decode cX12_parseSetup 169 = .ok (.ireturn, 1) := by decide +kernel
set_option maxRecDepth 20000 in
theorem ggX12_load_X12_copyBlock : GoodIn wsX12_load wsX12_copyBlock := goodIn_r _ [9, 4, 148, 149, 150, 151, 152, 153, 154, 155, 156, 157, 158, 159, 160, 161, 162, 163, 164, 165, 166] rfl (by decide +kernel)
set_option maxRecDepth 20000 in
theorem gX12_load_X12_copyBlock : GoodIn wsX12_load (wsV RX12 91 RX12 yX12_copyBlock wsX12_copyBlock) := goodIn_app (goodIn_of _ (by decide +kernel)) ggX12_load_X12_copyBlock
set_option maxRecDepth 20000 in
theorem ggX12_load_X12_begin : GoodIn wsX12_load wsX12_begin := goodIn_r _ [13, 14, 15, 16, 17, 18, 19, 8, 20, 1, 21, 22, 23, 24, 25, 26, 27, 28, 29, 30, 148, 149, 150, 151, 152, 153, 154, 155, 156, 157, 158, 159, 160, 161, 162, 163, 164, 165, 166] rfl (by decide +kernel)
set_option maxRecDepth 20000 in
theorem gX12_load_X12_begin : GoodIn wsX12_load (wsV RX12 80 RX12 yX12_begin wsX12_begin) := goodIn_app (goodIn_of _ (by decide +kernel)) ggX12_load_X12_begin
set_option maxRecDepth 20000 in
theorem ggX12_load_X12_parseSetup : GoodIn wsX12_load wsX12_parseSetup := goodIn_r _ [34, 4, 23, 35, 36, 37, 8, 38, 16, 22, 21, 39, 40, 41, 42, 43, 44, 45, 46, 47, 48, 49, 50, 51, 52, 53, 54, 55, 56, 57, 58, 59, 60, 61, 62, 63, 64, 65, 66, 67, 68, 69, 70, 71, 72, 73, 74, 75, 76, 77, 78, 79, 80, 81, 82, 83, 84, 85, 86, 87, 88, 89, 90, 91, 14, 15, 17, 18, 19, 20, 1, 24, 25, 26, 27, 28, 29, 30, 92, 93, 94, 95, 96, 97, 98, 99, 100, 101, 102, 103, 104, 105, 106, 107, 108, 109, 110, 111, 112, 113, 114, 115, 116, 117, 118, 119, 120, 121, 122, 123, 124, 125, 126, 127, 128, 129, 130, 131, 132, 133, 134, 135, 136, 137, 138, 139, 140, 141, 142, 148, 149, 150, 151, 152, 153, 154, 155, 156, 157, 158, 159, 160, 161, 162, 163, 164, 165, 166] rfl (by decide +kernel)
set_option maxRecDepth 20000 in
theorem gX12_load_X12_parseSetup : GoodIn wsX12_load (wsV RX12 83 RX12 yX12_parseSetup wsX12_parseSetup) := goodIn_app (goodIn_of _ (by decide +kernel)) ggX12_load_X12_parseSetup
set_option maxRecDepth 20000 in
theorem ggX12_load_X12_fails : GoodIn wsX12_load wsX12_fails := goodIn_r _ [146, 147, 148, 149, 150, 151, 152, 153, 154, 155, 156, 157, 158, 159, 160, 161, 162, 163, 164, 165, 166] rfl (by decide +kernel)
set_option maxRecDepth 20000 in
theorem gX12_load_X12_fails : GoodIn wsX12_load (wsV RX12 167 RX12 yX12_fails wsX12_fails) := goodIn_app (goodIn_of _ (by decide +kernel)) ggX12_load_X12_fails
theorem dX12_load_0 : decode cX12_load 0 = .ok (.aload_n 0, 1) := by decide +kernel
theorem dX12_load_1 : decode cX12_load 1 = .ok (.iconst 0, 1) := by decide +kernel
theorem dX12_load_2 : decode cX12_load 2 = .ok (.bipush 9, 2) := by decide +kernel
theorem dX12_load_4 : decode cX12_load 4 = .ok (.invokevirtual 91, 3) := by decide +kernel
theorem dX12_load_7 : decode cX12_load 7 = .ok (.aload_n 0, 1) := by decide +kernel
theorem dX12_load_8 : decode cX12_load 8 = .ok (.invokevirtual 80, 3) := by decide +kernel
theorem dX12_load_11 : decode cX12_load 11 = .ok (.aload_n 0, 1) := by decide +kernel
theorem dX12_load_12 : decode cX12_load 12 = .ok (.invokevirtual 83, 3) := by decide +kernel
theorem dX12_load_15 : decode cX12_load 15 = .ok (.istore_n 1, 1) := by decide +kernel
theorem dX12_load_16 : decode cX12_load 16 = .ok (.aload_n 0, 1) := by decide +kernel
theorem dX12_load_17 : decode cX12_load 17 = .ok (.iconst 0, 1) := by decide +kernel
theorem dX12_load_18 : decode cX12_load 18 = .ok (.putfield 27, 3) := by decide +kernel
theorem dX12_load_21 : decode cX12_load 21 = .ok (.iload_n 1, 1) := by decide +kernel
theorem dX12_load_22 : decode cX12_load 22 = .ok (.ifCond .ne 10, 3) := by decide +kernel
theorem dX12_load_25 : decode cX12_load 25 = .ok (.aload_n 0, 1) := by decide +kernel
theorem dX12_load_26 : decode cX12_load 26 = .ok (.bipush 9, 2) := by decide +kernel
theorem dX12_load_28 : decode cX12_load 28 = .ok (.iconst 0, 1) := by decide +kernel
theorem dX12_load_29 : decode cX12_load 29 = .ok (.invokevirtual 91, 3) := by decide +kernel
theorem dX12_load_32 : decode cX12_load 32 = .ok (.aload_n 0, 1) := by decide +kernel
theorem dX12_load_33 : decode cX12_load 33 = .ok (.iload_n 1, 1) := by decide +kernel
theorem dX12_load_34 : decode cX12_load 34 = .ok (.ifCond .ne 7, 3) := by decide +kernel
theorem dX12_load_37 : decode cX12_load 37 = .ok (.iconst 1, 1) := by decide +kernel
theorem dX12_load_38 : decode cX12_load 38 = .ok (.goto 4, 3) := by decide +kernel
theorem dX12_load_41 : decode cX12_load 41 = .ok (.iconst 0, 1) := by decide +kernel
theorem dX12_load_42 : decode cX12_load 42 = .ok (.iconst 0, 1) := by decide +kernel
theorem dX12_load_43 : decode cX12_load 43 = .ok (.iconst 0, 1) := by decide +kernel
theorem dX12_load_44 : decode cX12_load 44 = .ok (.invokevirtual 167, 3) := by decide +kernel
theorem dX12_load_47 : decode cX12_load 47 = .ok (.ifCond .eq 5, 3) := by decide +kernel
theorem dX12_load_50 : decode cX12_load 50 = .ok (.iconst 0, 1) := by decide +kernel
theorem dX12_load_51 : decode cX12_load 51 = .ok (.ireturn, 1) := by decide +kernel
theorem dX12_load_52 : decode cX12_load 52 = .ok (.aload_n 0, 1) := by decide +kernel
theorem dX12_load_53 : decode cX12_load 53 = .ok (.iconst 0, 1) := by decide +kernel
theorem dX12_load_54 : decode cX12_load 54 = .ok (.putfield 21, 3) := by decide +kernel
theorem dX12_load_57 : decode cX12_load 57 = .ok (.aload_n 0, 1) := by decide +kernel
theorem dX12_load_58 : decode cX12_load 58 = .ok (.getfield 17, 3) := by decide +kernel
theorem dX12_load_61 : decode cX12_load 61 = .ok (.iconst 0, 1) := by decide +kernel
theorem dX12_load_62 : decode cX12_load 62 = .ok (.iconst 0, 1) := by decide +kernel
theorem dX12_load_63 : decode cX12_load 63 = .ok (.bastore, 1) := by decide +kernel
theorem dX12_load_64 : decode cX12_load 64 = .ok (.aload_n 0, 1) := by decide +kernel
theorem dX12_load_65 : decode cX12_load 65 = .ok (.getfield 17, 3) := by decide +kernel
theorem dX12_load_68 : decode cX12_load 68 = .ok (.iconst 1, 1) := by decide +kernel
theorem dX12_load_69 : decode cX12_load 69 = .ok (.iconst 0, 1) := by decide +kernel
theorem dX12_load_70 : decode cX12_load 70 = .ok (.bastore, 1) := by decide +kernel
theorem dX12_load_71 : decode cX12_load 71 = .ok (.aload_n 0, 1) := by decide +kernel
theorem dX12_load_72 : decode cX12_load 72 = .ok (.getfield 13, 3) := by decide +kernel
theorem dX12_load_75 : decode cX12_load 75 = .ok (.bipush 13, 2) := by decide +kernel
theorem dX12_load_77 : decode cX12_load 77 = .ok (.iaload, 1) := by decide +kernel
theorem dX12_load_78 : decode cX12_load 78 = .ok (.ireturn, 1) := by decide +kernel
theorem dX12_nameOf_0 : decode cX12_nameOf 0 = .ok (.iload_n 0, 1) := by decide +kernel
theorem dX12_nameOf_1 : decode cX12_nameOf 1 = .ok (.tableswitch 64 0 6 #[43, 46, 49, 52, 55, 58, 61], 43) := by decide +kernel
theorem dX12_nameOf_44 : decode cX12_nameOf 44 = .ok (.ldc 239, 2) := by decide +kernel
theorem dX12_nameOf_46 : decode cX12_nameOf 46 = .ok (.areturn, 1) := by decide +kernel
theorem dX12_nameOf_47 : decode cX12_nameOf 47 = .ok (.ldc 241, 2) := by decide +kernel
theorem dX12_nameOf_49 : decode cX12_nameOf 49 = .ok (.areturn, 1) := by decide +kernel
theorem dX12_nameOf_50 : decode cX12_nameOf 50 = .ok (.ldc 243, 2) := by decide +kernel
theorem dX12_nameOf_52 : decode cX12_nameOf 52 = .ok (.areturn, 1) := by decide +kernel
theorem dX12_nameOf_53 : decode cX12_nameOf 53 = .ok (.ldc 245, 2) := by decide +kernel
theorem dX12_nameOf_55 : decode cX12_nameOf 55 = .ok (.areturn, 1) := by decide +kernel
theorem dX12_nameOf_56 : decode cX12_nameOf 56 = .ok (.ldc 247, 2) := by decide +kernel
theorem dX12_nameOf_58 : decode cX12_nameOf 58 = .ok (.areturn, 1) := by decide +kernel
theorem dX12_nameOf_59 : decode cX12_nameOf 59 = .ok (.ldc 249, 2) := by decide +kernel
theorem dX12_nameOf_61 : decode cX12_nameOf 61 = .ok (.areturn, 1) := by decide +kernel
theorem dX12_nameOf_62 : decode cX12_nameOf 62 = .ok (.ldc 251, 2) := by decide +kernel
theorem dX12_nameOf_64 : decode cX12_nameOf 64 = .ok (.areturn, 1) := by decide +kernel
theorem dX12_nameOf_65 : decode cX12_nameOf 65 = .ok (.ldc 253, 2) := by decide +kernel
theorem dX12_nameOf_67 : decode cX12_nameOf 67 = .ok (.areturn, 1) := by decide +kernel
set_option maxRecDepth 20000 in
theorem ggX12_commandHere_X12_nameOf : GoodIn wsX12_commandHere wsX12_nameOf := goodIn_r _ [4] rfl (by decide +kernel)
set_option maxRecDepth 20000 in
theorem gX12_commandHere_X12_nameOf : GoodIn wsX12_commandHere (va_wsS RX12 255 yX12_nameOf wsX12_nameOf) := goodIn_app (goodIn_of _ (by decide +kernel)) ggX12_commandHere_X12_nameOf
set_option maxRecDepth 20000 in
theorem ggX12_commandHere_X12_isWord : GoodIn wsX12_commandHere wsX12_isWord := goodIn_r _ [8, 9, 10, 11, 12, 13, 14, 15, 16, 17, 18, 19, 20, 21, 22, 23, 24, 25, 26, 27, 28, 29, 30, 31, 32, 33, 34, 35, 36, 37, 38, 39, 40, 41, 42, 43, 44, 45, 46, 47, 48, 49, 50, 51, 52, 53, 54, 55, 56, 57, 58, 59, 60, 61, 62, 63, 64, 65, 66, 67, 68, 69, 70, 71, 72, 73, 74, 75, 76, 77, 78, 79, 80] rfl (by decide +kernel)
set_option maxRecDepth 20000 in
theorem gX12_commandHere_X12_isWord : GoodIn wsX12_commandHere (wsV RX12 183 RX12 yX12_isWord wsX12_isWord) := goodIn_app (goodIn_of _ (by decide +kernel)) ggX12_commandHere_X12_isWord
theorem dX12_commandHere_0 : decode cX12_commandHere 0 = .ok (.iconst 0, 1) := by decide +kernel
theorem dX12_commandHere_1 : decode cX12_commandHere 1 = .ok (.istore_n 1, 1) := by decide +kernel
theorem dX12_commandHere_2 : decode cX12_commandHere 2 = .ok (.iload_n 1, 1) := by decide +kernel
theorem dX12_commandHere_3 : decode cX12_commandHere 3 = .ok (.bipush 7, 2) := by decide +kernel
theorem dX12_commandHere_5 : decode cX12_commandHere 5 = .ok (.if_icmp .gt 22, 3) := by decide +kernel
theorem dX12_commandHere_8 : decode cX12_commandHere 8 = .ok (.aload_n 0, 1) := by decide +kernel
theorem dX12_commandHere_9 : decode cX12_commandHere 9 = .ok (.iload_n 1, 1) := by decide +kernel
theorem dX12_commandHere_10 : decode cX12_commandHere 10 = .ok (.invokestatic 255, 3) := by decide +kernel
theorem dX12_commandHere_13 : decode cX12_commandHere 13 = .ok (.invokevirtual 183, 3) := by decide +kernel
theorem dX12_commandHere_16 : decode cX12_commandHere 16 = .ok (.ifCond .eq 5, 3) := by decide +kernel
theorem dX12_commandHere_19 : decode cX12_commandHere 19 = .ok (.iload_n 1, 1) := by decide +kernel
theorem dX12_commandHere_20 : decode cX12_commandHere 20 = .ok (.ireturn, 1) := by decide +kernel
theorem dX12_commandHere_21 : decode cX12_commandHere 21 = .ok (.iinc 1 1, 3) := by decide +kernel
theorem dX12_commandHere_24 : decode cX12_commandHere 24 = .ok (.goto (-22), 3) := by decide +kernel
theorem dX12_commandHere_27 : decode cX12_commandHere 27 = .ok (.iconst (-1), 1) := by decide +kernel
theorem dX12_commandHere_28 : decode cX12_commandHere 28 = .ok (.ireturn, 1) := by decide +kernel
set_option maxRecDepth 20000 in
theorem ggX12_parseNumber_X12_wrong : GoodIn wsX12_parseNumber wsX12_wrong := goodIn_r _ [8, 9, 10, 11, 25, 26, 27, 28, 29, 30, 31, 32, 33, 34, 35, 36, 37, 38, 39, 40, 41, 42, 43] rfl (by decide +kernel)
set_option maxRecDepth 20000 in
theorem gX12_parseNumber_X12_wrong : GoodIn wsX12_parseNumber (wsV RX12 187 RX12 yX12_wrong wsX12_wrong) := goodIn_app (goodIn_of _ (by decide +kernel)) ggX12_parseNumber_X12_wrong
set_option maxRecDepth 20000 in
theorem ggX12_parseNumber_X12_token : GoodIn wsX12_parseNumber wsX12_token := goodIn_r _ [15, 16, 17, 18, 10, 1, 3, 19, 20, 7, 21, 22, 23, 24, 25, 26, 27, 28, 29, 30, 31, 32, 33, 34, 35, 36, 37, 38, 39, 40, 41, 42, 43] rfl (by decide +kernel)
set_option maxRecDepth 20000 in
theorem gX12_parseNumber_X12_token : GoodIn wsX12_parseNumber (wsV RX12 180 RX12 yX12_token wsX12_token) := goodIn_app (goodIn_of _ (by decide +kernel)) ggX12_parseNumber_X12_token
theorem dX12_parseNumber_0 : decode cX12_parseNumber 0 = .ok (.aload_n 0, 1) := by decide +kernel
theorem dX12_parseNumber_1 : decode cX12_parseNumber 1 = .ok (.getfield 57, 3) := by decide +kernel
theorem dX12_parseNumber_4 : decode cX12_parseNumber 4 = .ok (.iconst 2, 1) := by decide +kernel
theorem dX12_parseNumber_5 : decode cX12_parseNumber 5 = .ok (.if_icmp .eq 9, 3) := by decide +kernel
theorem dX12_parseNumber_8 : decode cX12_parseNumber 8 = .ok (.aload_n 0, 1) := by decide +kernel
theorem dX12_parseNumber_9 : decode cX12_parseNumber 9 = .ok (.iconst 1, 1) := by decide +kernel
theorem dX12_parseNumber_10 : decode cX12_parseNumber 10 = .ok (.invokevirtual 187, 3) := by decide +kernel
theorem dX12_parseNumber_13 : decode cX12_parseNumber 13 = .ok (.ireturn, 1) := by decide +kernel
theorem dX12_parseNumber_14 : decode cX12_parseNumber 14 = .ok (.aload_n 0, 1) := by decide +kernel
theorem dX12_parseNumber_15 : decode cX12_parseNumber 15 = .ok (.getfield 66, 3) := by decide +kernel
theorem dX12_parseNumber_18 : decode cX12_parseNumber 18 = .ok (.iload_n 1, 1) := by decide +kernel
theorem dX12_parseNumber_19 : decode cX12_parseNumber 19 = .ok (.aload_n 0, 1) := by decide +kernel
theorem dX12_parseNumber_20 : decode cX12_parseNumber 20 = .ok (.getfield 63, 3) := by decide +kernel
theorem dX12_parseNumber_23 : decode cX12_parseNumber 23 = .ok (.iastore, 1) := by decide +kernel
theorem dX12_parseNumber_24 : decode cX12_parseNumber 24 = .ok (.aload_n 0, 1) := by decide +kernel
theorem dX12_parseNumber_25 : decode cX12_parseNumber 25 = .ok (.invokevirtual 180, 3) := by decide +kernel
theorem dX12_parseNumber_28 : decode cX12_parseNumber 28 = .ok (.iconst 1, 1) := by decide +kernel
theorem dX12_parseNumber_29 : decode cX12_parseNumber 29 = .ok (.ireturn, 1) := by decide +kernel
set_option maxRecDepth 20000 in
theorem ggX12_parseStepName_X12_isShortWord : GoodIn wsX12_parseStepName wsX12_isShortWord := goodIn_r _ [8, 9, 3, 2, 10, 11, 12, 7, 13, 14, 15, 38, 39, 40, 41, 42, 43, 44, 45, 46, 47, 48, 49, 50, 51, 52, 53, 54, 55, 56] rfl (by decide +kernel)
set_option maxRecDepth 20000 in
theorem gX12_parseStepName_X12_isShortWord : GoodIn wsX12_parseStepName (wsV RX12 193 RX12 yX12_isShortWord wsX12_isShortWord) := goodIn_app (goodIn_of _ (by decide +kernel)) ggX12_parseStepName_X12_isShortWord
set_option maxRecDepth 20000 in
theorem ggX12_parseStepName_X12_stepNamed : GoodIn wsX12_parseStepName wsX12_stepNamed := goodIn_r _ [19, 20, 21, 22, 23, 7, 24, 25, 38, 39, 40, 41, 42, 43, 44, 45, 46, 47, 48, 49, 50, 51, 52, 53, 54, 55, 56] rfl (by decide +kernel)
set_option maxRecDepth 20000 in
theorem gX12_parseStepName_X12_stepNamed : GoodIn wsX12_parseStepName (wsV RX12 208 RX12 yX12_stepNamed wsX12_stepNamed) := goodIn_app (goodIn_of _ (by decide +kernel)) ggX12_parseStepName_X12_stepNamed
set_option maxRecDepth 20000 in
theorem ggX12_parseStepName_X12_wrong : GoodIn wsX12_parseStepName wsX12_wrong := goodIn_r _ [13, 14, 2, 15, 38, 39, 40, 41, 42, 43, 44, 45, 46, 47, 48, 49, 50, 51, 52, 53, 54, 55, 56] rfl (by decide +kernel)
set_option maxRecDepth 20000 in
theorem gX12_parseStepName_X12_wrong : GoodIn wsX12_parseStepName (wsV RX12 187 RX12 yX12_wrong wsX12_wrong) := goodIn_app (goodIn_of _ (by decide +kernel)) ggX12_parseStepName_X12_wrong
set_option maxRecDepth 20000 in
theorem ggX12_parseStepName_X12_token : GoodIn wsX12_parseStepName wsX12_token := goodIn_r _ [29, 3, 30, 25, 2, 9, 31, 32, 33, 7, 34, 35, 36, 37, 38, 39, 40, 41, 42, 43, 44, 45, 46, 47, 48, 49, 50, 51, 52, 53, 54, 55, 56] rfl (by decide +kernel)
set_option maxRecDepth 20000 in
theorem gX12_parseStepName_X12_token : GoodIn wsX12_parseStepName (wsV RX12 180 RX12 yX12_token wsX12_token) := goodIn_app (goodIn_of _ (by decide +kernel)) ggX12_parseStepName_X12_token
theorem dX12_parseStepName_0 : decode cX12_parseStepName 0 = .ok (.aload_n 0, 1) := by decide +kernel
theorem dX12_parseStepName_1 : decode cX12_parseStepName 1 = .ok (.invokevirtual 193, 3) := by decide +kernel
theorem dX12_parseStepName_4 : decode cX12_parseStepName 4 = .ok (.ifCond .ne 5, 3) := by decide +kernel
theorem dX12_parseStepName_7 : decode cX12_parseStepName 7 = .ok (.iconst 0, 1) := by decide +kernel
theorem dX12_parseStepName_8 : decode cX12_parseStepName 8 = .ok (.ireturn, 1) := by decide +kernel
theorem dX12_parseStepName_9 : decode cX12_parseStepName 9 = .ok (.aload_n 0, 1) := by decide +kernel
theorem dX12_parseStepName_10 : decode cX12_parseStepName 10 = .ok (.getfield 66, 3) := by decide +kernel
theorem dX12_parseStepName_13 : decode cX12_parseStepName 13 = .ok (.iload_n 1, 1) := by decide +kernel
theorem dX12_parseStepName_14 : decode cX12_parseStepName 14 = .ok (.aload_n 0, 1) := by decide +kernel
theorem dX12_parseStepName_15 : decode cX12_parseStepName 15 = .ok (.aload_n 0, 1) := by decide +kernel
theorem dX12_parseStepName_16 : decode cX12_parseStepName 16 = .ok (.getfield 60, 3) := by decide +kernel
theorem dX12_parseStepName_19 : decode cX12_parseStepName 19 = .ok (.aload_n 0, 1) := by decide +kernel
theorem dX12_parseStepName_20 : decode cX12_parseStepName 20 = .ok (.getfield 54, 3) := by decide +kernel
theorem dX12_parseStepName_23 : decode cX12_parseStepName 23 = .ok (.aload_n 0, 1) := by decide +kernel
theorem dX12_parseStepName_24 : decode cX12_parseStepName 24 = .ok (.getfield 60, 3) := by decide +kernel
theorem dX12_parseStepName_27 : decode cX12_parseStepName 27 = .ok (.isub, 1) := by decide +kernel
theorem dX12_parseStepName_28 : decode cX12_parseStepName 28 = .ok (.invokevirtual 208, 3) := by decide +kernel
theorem dX12_parseStepName_31 : decode cX12_parseStepName 31 = .ok (.iastore, 1) := by decide +kernel
theorem dX12_parseStepName_32 : decode cX12_parseStepName 32 = .ok (.aload_n 0, 1) := by decide +kernel
theorem dX12_parseStepName_33 : decode cX12_parseStepName 33 = .ok (.getfield 66, 3) := by decide +kernel
theorem dX12_parseStepName_36 : decode cX12_parseStepName 36 = .ok (.iload_n 1, 1) := by decide +kernel
theorem dX12_parseStepName_37 : decode cX12_parseStepName 37 = .ok (.iaload, 1) := by decide +kernel
theorem dX12_parseStepName_38 : decode cX12_parseStepName 38 = .ok (.iconst (-1), 1) := by decide +kernel
theorem dX12_parseStepName_39 : decode cX12_parseStepName 39 = .ok (.if_icmp .ne 9, 3) := by decide +kernel
theorem dX12_parseStepName_42 : decode cX12_parseStepName 42 = .ok (.aload_n 0, 1) := by decide +kernel
theorem dX12_parseStepName_43 : decode cX12_parseStepName 43 = .ok (.iconst 3, 1) := by decide +kernel
theorem dX12_parseStepName_44 : decode cX12_parseStepName 44 = .ok (.invokevirtual 187, 3) := by decide +kernel
theorem dX12_parseStepName_47 : decode cX12_parseStepName 47 = .ok (.ireturn, 1) := by decide +kernel
theorem dX12_parseStepName_48 : decode cX12_parseStepName 48 = .ok (.aload_n 0, 1) := by decide +kernel
theorem dX12_parseStepName_49 : decode cX12_parseStepName 49 = .ok (.invokevirtual 180, 3) := by decide +kernel
theorem dX12_parseStepName_52 : decode cX12_parseStepName 52 = .ok (.iconst 1, 1) := by decide +kernel
theorem dX12_parseStepName_53 : decode cX12_parseStepName 53 = .ok (.ireturn, 1) := by decide +kernel
set_option maxRecDepth 20000 in
theorem ggX12_parseArguments_X12_parseStepName : GoodIn wsX12_parseArguments wsX12_parseStepName := goodIn_r _ [5, 6, 7, 8, 9, 10, 11, 4, 12, 13, 14, 15, 16, 17, 18, 19, 20, 21, 22, 23, 24, 25, 26, 27, 28, 29, 30, 31, 32, 33, 34, 35, 36, 37, 38, 39, 40, 41, 46, 47, 48, 49, 50, 51, 52, 53, 54, 55, 56, 57, 58, 59, 60, 61, 62, 63, 64] rfl (by decide +kernel)
set_option maxRecDepth 20000 in
theorem gX12_parseArguments_X12_parseStepName : GoodIn wsX12_parseArguments (wsV RX12 259 RX12 yX12_parseStepName wsX12_parseStepName) := goodIn_app (goodIn_of _ (by decide +kernel)) ggX12_parseArguments_X12_parseStepName
set_option maxRecDepth 20000 in
theorem ggX12_parseArguments_X12_parseNumber : GoodIn wsX12_parseArguments wsX12_parseNumber := goodIn_r _ [45, 13, 6, 35, 14, 15, 16, 4, 17, 18, 7, 19, 30, 31, 32, 33, 8, 34, 29, 36, 37, 38, 39, 40, 41, 46, 47, 48, 49, 50, 51, 52, 53, 54, 55, 56, 57, 58, 59, 60, 61, 62, 63, 64] rfl (by decide +kernel)
set_option maxRecDepth 20000 in
theorem gX12_parseArguments_X12_parseNumber : GoodIn wsX12_parseArguments (wsV RX12 262 RX12 yX12_parseNumber wsX12_parseNumber) := goodIn_app (goodIn_of _ (by decide +kernel)) ggX12_parseArguments_X12_parseNumber
theorem dX12_parseArguments_0 : decode cX12_parseArguments 0 = .ok (.iload_n 1, 1) := by decide +kernel
theorem dX12_parseArguments_1 : decode cX12_parseArguments 1 = .ok (.tableswitch 67 3 7 #[37, 37, 67, 43, 35], 35) := by decide +kernel
theorem dX12_parseArguments_36 : decode cX12_parseArguments 36 = .ok (.iconst 1, 1) := by decide +kernel
theorem dX12_parseArguments_37 : decode cX12_parseArguments 37 = .ok (.ireturn, 1) := by decide +kernel
theorem dX12_parseArguments_38 : decode cX12_parseArguments 38 = .ok (.aload_n 0, 1) := by decide +kernel
theorem dX12_parseArguments_39 : decode cX12_parseArguments 39 = .ok (.iload_n 2, 1) := by decide +kernel
theorem dX12_parseArguments_40 : decode cX12_parseArguments 40 = .ok (.invokevirtual 259, 3) := by decide +kernel
theorem dX12_parseArguments_43 : decode cX12_parseArguments 43 = .ok (.ireturn, 1) := by decide +kernel
theorem dX12_parseArguments_44 : decode cX12_parseArguments 44 = .ok (.aload_n 0, 1) := by decide +kernel
theorem dX12_parseArguments_45 : decode cX12_parseArguments 45 = .ok (.iload_n 2, 1) := by decide +kernel
theorem dX12_parseArguments_46 : decode cX12_parseArguments 46 = .ok (.invokevirtual 259, 3) := by decide +kernel
theorem dX12_parseArguments_49 : decode cX12_parseArguments 49 = .ok (.ifCond .eq 17, 3) := by decide +kernel
theorem dX12_parseArguments_52 : decode cX12_parseArguments 52 = .ok (.aload_n 0, 1) := by decide +kernel
theorem dX12_parseArguments_53 : decode cX12_parseArguments 53 = .ok (.iload_n 2, 1) := by decide +kernel
theorem dX12_parseArguments_54 : decode cX12_parseArguments 54 = .ok (.iconst 1, 1) := by decide +kernel
theorem dX12_parseArguments_55 : decode cX12_parseArguments 55 = .ok (.iadd, 1) := by decide +kernel
theorem dX12_parseArguments_56 : decode cX12_parseArguments 56 = .ok (.invokevirtual 262, 3) := by decide +kernel
theorem dX12_parseArguments_59 : decode cX12_parseArguments 59 = .ok (.ifCond .eq 7, 3) := by decide +kernel
theorem dX12_parseArguments_62 : decode cX12_parseArguments 62 = .ok (.iconst 1, 1) := by decide +kernel
theorem dX12_parseArguments_63 : decode cX12_parseArguments 63 = .ok (.goto 4, 3) := by decide +kernel
theorem dX12_parseArguments_66 : decode cX12_parseArguments 66 = .ok (.iconst 0, 1) := by decide +kernel
theorem dX12_parseArguments_67 : decode cX12_parseArguments 67 = .ok (.ireturn, 1) := by decide +kernel
theorem dX12_parseArguments_68 : decode cX12_parseArguments 68 = .ok (.aload_n 0, 1) := by decide +kernel
theorem dX12_parseArguments_69 : decode cX12_parseArguments 69 = .ok (.iload_n 2, 1) := by decide +kernel
theorem dX12_parseArguments_70 : decode cX12_parseArguments 70 = .ok (.invokevirtual 262, 3) := by decide +kernel
theorem dX12_parseArguments_73 : decode cX12_parseArguments 73 = .ok (.ireturn, 1) := by decide +kernel
set_option maxRecDepth 20000 in
theorem ggX12_parseScript_X12_commandHere : GoodIn wsX12_parseScript wsX12_commandHere := goodIn_r _ [7, 8, 9, 6, 10, 11, 12, 13, 14, 1, 15, 16, 17, 18, 19, 20, 21, 22, 23, 24, 25, 26, 27, 28, 29, 30, 31, 32, 33, 34, 35, 36, 37, 38, 39, 40, 41, 42, 43, 44, 45, 46, 47, 48, 49, 50, 51, 52, 53, 54, 55, 56, 57, 58, 59, 60, 61, 62, 63, 64, 65, 66, 114, 115, 116, 117, 118, 119, 120, 121, 122, 123, 124, 125, 126, 127, 128, 129, 130, 131, 132] rfl (by decide +kernel)
set_option maxRecDepth 20000 in
theorem gX12_parseScript_X12_commandHere : GoodIn wsX12_parseScript (wsV RX12 265 RX12 yX12_commandHere wsX12_commandHere) := goodIn_app (goodIn_of _ (by decide +kernel)) ggX12_parseScript_X12_commandHere
set_option maxRecDepth 20000 in
theorem ggX12_parseScript_X12_wrong : GoodIn wsX12_parseScript wsX12_wrong := goodIn_r _ [70, 71, 16, 72, 114, 115, 116, 117, 118, 119, 120, 121, 122, 123, 124, 125, 126, 127, 128, 129, 130, 131, 132] rfl (by decide +kernel)
set_option maxRecDepth 20000 in
theorem gX12_parseScript_X12_wrong : GoodIn wsX12_parseScript (wsV RX12 187 RX12 yX12_wrong wsX12_wrong) := goodIn_app (goodIn_of _ (by decide +kernel)) ggX12_parseScript_X12_wrong
set_option maxRecDepth 20000 in
theorem ggX12_parseScript_X12_token : GoodIn wsX12_parseScript wsX12_token := goodIn_r _ [76, 15, 77, 17, 16, 1, 78, 79, 80, 6, 81, 82, 83, 84, 114, 115, 116, 117, 118, 119, 120, 121, 122, 123, 124, 125, 126, 127, 128, 129, 130, 131, 132] rfl (by decide +kernel)
set_option maxRecDepth 20000 in
theorem gX12_parseScript_X12_token : GoodIn wsX12_parseScript (wsV RX12 180 RX12 yX12_token wsX12_token) := goodIn_app (goodIn_of _ (by decide +kernel)) ggX12_parseScript_X12_token
set_option maxRecDepth 20000 in
theorem ggX12_parseScript_X12_parseArguments : GoodIn wsX12_parseScript wsX12_parseArguments := goodIn_r _ [88, 89, 90, 91, 6, 92, 2, 16, 15, 93, 94, 95, 96, 1, 67, 68, 69, 70, 71, 72, 97, 98, 99, 100, 101, 102, 103, 104, 105, 17, 73, 74, 75, 76, 77, 78, 79, 80, 81, 82, 83, 84, 106, 107, 108, 109, 114, 115, 116, 117, 118, 119, 120, 121, 122, 123, 124, 125, 126, 127, 128, 129, 130, 131, 132] rfl (by decide +kernel)
set_option maxRecDepth 20000 in
theorem gX12_parseScript_X12_parseArguments : GoodIn wsX12_parseScript (wsV RX12 268 RX12 yX12_parseArguments wsX12_parseArguments) := goodIn_app (goodIn_of _ (by decide +kernel)) ggX12_parseScript_X12_parseArguments
set_option maxRecDepth 20000 in
theorem ggX12_parseScript_X12_semicolon : GoodIn wsX12_parseScript wsX12_semicolon := goodIn_r _ [113, 1, 67, 68, 69, 6, 70, 71, 16, 72, 73, 74, 75, 76, 15, 77, 17, 78, 79, 80, 81, 82, 83, 84, 114, 115, 116, 117, 118, 119, 120, 121, 122, 123, 124, 125, 126, 127, 128, 129, 130, 131, 132] rfl (by decide +kernel)
set_option maxRecDepth 20000 in
theorem gX12_parseScript_X12_semicolon : GoodIn wsX12_parseScript (wsV RX12 205 RX12 yX12_semicolon wsX12_semicolon) := goodIn_app (goodIn_of _ (by decide +kernel)) ggX12_parseScript_X12_semicolon
theorem dX12_parseScript_0 : decode cX12_parseScript 0 = .ok (.iconst 0, 1) := by decide +kernel
theorem dX12_parseScript_1 : decode cX12_parseScript 1 = .ok (.istore_n 1, 1) := by decide +kernel
theorem dX12_parseScript_2 : decode cX12_parseScript 2 = .ok (.aload_n 0, 1) := by decide +kernel
theorem dX12_parseScript_3 : decode cX12_parseScript 3 = .ok (.getfield 57, 3) := by decide +kernel
theorem dX12_parseScript_6 : decode cX12_parseScript 6 = .ok (.ifCond .eq 88, 3) := by decide +kernel
theorem dX12_parseScript_9 : decode cX12_parseScript 9 = .ok (.aload_n 0, 1) := by decide +kernel
theorem dX12_parseScript_10 : decode cX12_parseScript 10 = .ok (.invokevirtual 265, 3) := by decide +kernel
theorem dX12_parseScript_13 : decode cX12_parseScript 13 = .ok (.istore_n 2, 1) := by decide +kernel
theorem dX12_parseScript_14 : decode cX12_parseScript 14 = .ok (.iload_n 2, 1) := by decide +kernel
theorem dX12_parseScript_15 : decode cX12_parseScript 15 = .ok (.iconst (-1), 1) := by decide +kernel
theorem dX12_parseScript_16 : decode cX12_parseScript 16 = .ok (.if_icmp .eq 25, 3) := by decide +kernel
theorem dX12_parseScript_19 : decode cX12_parseScript 19 = .ok (.iload_n 1, 1) := by decide +kernel
theorem dX12_parseScript_20 : decode cX12_parseScript 20 = .ok (.bipush 30, 2) := by decide +kernel
theorem dX12_parseScript_22 : decode cX12_parseScript 22 = .ok (.if_icmp .lt 11, 3) := by decide +kernel
theorem dX12_parseScript_25 : decode cX12_parseScript 25 = .ok (.aload_n 0, 1) := by decide +kernel
theorem dX12_parseScript_26 : decode cX12_parseScript 26 = .ok (.iconst 5, 1) := by decide +kernel
theorem dX12_parseScript_27 : decode cX12_parseScript 27 = .ok (.invokevirtual 187, 3) := by decide +kernel
theorem dX12_parseScript_30 : decode cX12_parseScript 30 = .ok (.ifCond .eq 7, 3) := by decide +kernel
theorem dX12_parseScript_33 : decode cX12_parseScript 33 = .ok (.iconst 1, 1) := by decide +kernel
theorem dX12_parseScript_34 : decode cX12_parseScript 34 = .ok (.goto 12, 3) := by decide +kernel
theorem dX12_parseScript_37 : decode cX12_parseScript 37 = .ok (.iconst 0, 1) := by decide +kernel
theorem dX12_parseScript_38 : decode cX12_parseScript 38 = .ok (.goto 8, 3) := by decide +kernel
theorem dX12_parseScript_41 : decode cX12_parseScript 41 = .ok (.aload_n 0, 1) := by decide +kernel
theorem dX12_parseScript_42 : decode cX12_parseScript 42 = .ok (.iconst 1, 1) := by decide +kernel
theorem dX12_parseScript_43 : decode cX12_parseScript 43 = .ok (.invokevirtual 187, 3) := by decide +kernel
theorem dX12_parseScript_46 : decode cX12_parseScript 46 = .ok (.istore_n 3, 1) := by decide +kernel
theorem dX12_parseScript_47 : decode cX12_parseScript 47 = .ok (.iload_n 3, 1) := by decide +kernel
theorem dX12_parseScript_48 : decode cX12_parseScript 48 = .ok (.ifCond .ne 5, 3) := by decide +kernel
theorem dX12_parseScript_51 : decode cX12_parseScript 51 = .ok (.iconst (-1), 1) := by decide +kernel
theorem dX12_parseScript_52 : decode cX12_parseScript 52 = .ok (.ireturn, 1) := by decide +kernel
theorem dX12_parseScript_53 : decode cX12_parseScript 53 = .ok (.aload_n 0, 1) := by decide +kernel
theorem dX12_parseScript_54 : decode cX12_parseScript 54 = .ok (.invokevirtual 180, 3) := by decide +kernel
theorem dX12_parseScript_57 : decode cX12_parseScript 57 = .ok (.aload_n 0, 1) := by decide +kernel
theorem dX12_parseScript_58 : decode cX12_parseScript 58 = .ok (.getfield 66, 3) := by decide +kernel
theorem dX12_parseScript_61 : decode cX12_parseScript 61 = .ok (.iload_n 1, 1) := by decide +kernel
theorem dX12_parseScript_62 : decode cX12_parseScript 62 = .ok (.iconst 3, 1) := by decide +kernel
theorem dX12_parseScript_63 : decode cX12_parseScript 63 = .ok (.imul, 1) := by decide +kernel
theorem dX12_parseScript_64 : decode cX12_parseScript 64 = .ok (.iload_n 2, 1) := by decide +kernel
theorem dX12_parseScript_65 : decode cX12_parseScript 65 = .ok (.iastore, 1) := by decide +kernel
theorem dX12_parseScript_66 : decode cX12_parseScript 66 = .ok (.aload_n 0, 1) := by decide +kernel
theorem dX12_parseScript_67 : decode cX12_parseScript 67 = .ok (.iload_n 2, 1) := by decide +kernel
theorem dX12_parseScript_68 : decode cX12_parseScript 68 = .ok (.iload_n 1, 1) := by decide +kernel
theorem dX12_parseScript_69 : decode cX12_parseScript 69 = .ok (.iconst 3, 1) := by decide +kernel
theorem dX12_parseScript_70 : decode cX12_parseScript 70 = .ok (.imul, 1) := by decide +kernel
theorem dX12_parseScript_71 : decode cX12_parseScript 71 = .ok (.iconst 1, 1) := by decide +kernel
theorem dX12_parseScript_72 : decode cX12_parseScript 72 = .ok (.iadd, 1) := by decide +kernel
theorem dX12_parseScript_73 : decode cX12_parseScript 73 = .ok (.invokevirtual 268, 3) := by decide +kernel
theorem dX12_parseScript_76 : decode cX12_parseScript 76 = .ok (.ifCond .eq 10, 3) := by decide +kernel
theorem dX12_parseScript_79 : decode cX12_parseScript 79 = .ok (.aload_n 0, 1) := by decide +kernel
theorem dX12_parseScript_80 : decode cX12_parseScript 80 = .ok (.invokevirtual 205, 3) := by decide +kernel
theorem dX12_parseScript_83 : decode cX12_parseScript 83 = .ok (.ifCond .ne 5, 3) := by decide +kernel
theorem dX12_parseScript_86 : decode cX12_parseScript 86 = .ok (.iconst (-1), 1) := by decide +kernel
theorem dX12_parseScript_87 : decode cX12_parseScript 87 = .ok (.ireturn, 1) := by decide +kernel
theorem dX12_parseScript_88 : decode cX12_parseScript 88 = .ok (.iinc 1 1, 3) := by decide +kernel
theorem dX12_parseScript_91 : decode cX12_parseScript 91 = .ok (.goto (-89), 3) := by decide +kernel
theorem dX12_parseScript_94 : decode cX12_parseScript 94 = .ok (.iload_n 1, 1) := by decide +kernel
theorem dX12_parseScript_95 : decode cX12_parseScript 95 = .ok (.ireturn, 1) := by decide +kernel
set_option maxRecDepth 20000 in
theorem ggX12_canDo_X12_in : GoodIn wsX12_canDo wsX12_in := goodIn_r _ [5] rfl (by decide +kernel)
set_option maxRecDepth 20000 in
theorem gX12_canDo_X12_in : GoodIn wsX12_canDo (va_wsS RX12 87 yX12_in wsX12_in) := goodIn_app (goodIn_of _ (by decide +kernel)) ggX12_canDo_X12_in
set_option maxRecDepth 20000 in
theorem ggX12_canDo_X12_of : GoodIn wsX12_canDo wsX12_of := goodIn_r _ [9, 1, 42, 43, 44, 45, 46, 47, 48, 49, 50, 51, 52, 53, 54, 55, 56, 57, 58, 59, 60] rfl (by decide +kernel)
set_option maxRecDepth 20000 in
theorem gX12_canDo_X12_of : GoodIn wsX12_canDo (wsV RX12 95 RX12 yX12_of wsX12_of) := goodIn_app (goodIn_of _ (by decide +kernel)) ggX12_canDo_X12_of
set_option maxRecDepth 20000 in
theorem ggX12_canDo_X12_canRedo : GoodIn wsX12_canDo wsX12_canRedo := goodIn_r _ [13, 1, 6, 7, 8, 4, 9, 14, 15, 16, 17, 18, 19, 20, 21, 22, 23, 24, 25, 42, 43, 44, 45, 46, 47, 48, 49, 50, 51, 52, 53, 54, 55, 56, 57, 58, 59, 60] rfl (by decide +kernel)
set_option maxRecDepth 20000 in
theorem gX12_canDo_X12_canRedo : GoodIn wsX12_canDo (wsV RX12 271 RX12 yX12_canRedo wsX12_canRedo) := goodIn_app (goodIn_of _ (by decide +kernel)) ggX12_canDo_X12_canRedo
set_option maxRecDepth 20000 in
theorem ggX12_canDo_X12_servingReason : GoodIn wsX12_canDo wsX12_servingReason := goodIn_r _ [29, 1, 30, 31, 32, 4, 33, 6, 7, 8, 9, 34, 35, 36, 37, 38, 39, 40, 41, 42, 43, 44, 45, 46, 47, 48, 49, 50, 51, 52, 53, 54, 55, 56, 57, 58, 59, 60] rfl (by decide +kernel)
set_option maxRecDepth 20000 in
theorem gX12_canDo_X12_servingReason : GoodIn wsX12_canDo (wsV RX12 274 RX12 yX12_servingReason wsX12_servingReason) := goodIn_app (goodIn_of _ (by decide +kernel)) ggX12_canDo_X12_servingReason
theorem dX12_canDo_0 : decode cX12_canDo 0 = .ok (.iload_n 1, 1) := by decide +kernel
theorem dX12_canDo_1 : decode cX12_canDo 1 = .ok (.tableswitch 138 0 6 #[43, 74, 74, 100, 117, 123, 130], 43) := by decide +kernel
theorem dX12_canDo_44 : decode cX12_canDo 44 = .ok (.iload_n 2, 1) := by decide +kernel
theorem dX12_canDo_45 : decode cX12_canDo 45 = .ok (.iconst 1, 1) := by decide +kernel
theorem dX12_canDo_46 : decode cX12_canDo 46 = .ok (.sipush 200, 3) := by decide +kernel
theorem dX12_canDo_49 : decode cX12_canDo 49 = .ok (.invokestatic 87, 3) := by decide +kernel
theorem dX12_canDo_52 : decode cX12_canDo 52 = .ok (.ifCond .eq 21, 3) := by decide +kernel
theorem dX12_canDo_55 : decode cX12_canDo 55 = .ok (.aload_n 0, 1) := by decide +kernel
theorem dX12_canDo_56 : decode cX12_canDo 56 = .ok (.getfield 13, 3) := by decide +kernel
theorem dX12_canDo_59 : decode cX12_canDo 59 = .ok (.iconst 4, 1) := by decide +kernel
theorem dX12_canDo_60 : decode cX12_canDo 60 = .ok (.iaload, 1) := by decide +kernel
theorem dX12_canDo_61 : decode cX12_canDo 61 = .ok (.iload_n 2, 1) := by decide +kernel
theorem dX12_canDo_62 : decode cX12_canDo 62 = .ok (.iadd, 1) := by decide +kernel
theorem dX12_canDo_63 : decode cX12_canDo 63 = .ok (.sipush 9999, 3) := by decide +kernel
theorem dX12_canDo_66 : decode cX12_canDo 66 = .ok (.if_icmp .gt 7, 3) := by decide +kernel
theorem dX12_canDo_69 : decode cX12_canDo 69 = .ok (.iconst 1, 1) := by decide +kernel
theorem dX12_canDo_70 : decode cX12_canDo 70 = .ok (.goto 4, 3) := by decide +kernel
theorem dX12_canDo_73 : decode cX12_canDo 73 = .ok (.iconst 0, 1) := by decide +kernel
theorem dX12_canDo_74 : decode cX12_canDo 74 = .ok (.ireturn, 1) := by decide +kernel
theorem dX12_canDo_75 : decode cX12_canDo 75 = .ok (.iload_n 2, 1) := by decide +kernel
theorem dX12_canDo_76 : decode cX12_canDo 76 = .ok (.iconst 1, 1) := by decide +kernel
theorem dX12_canDo_77 : decode cX12_canDo 77 = .ok (.bipush 9, 2) := by decide +kernel
theorem dX12_canDo_79 : decode cX12_canDo 79 = .ok (.invokestatic 87, 3) := by decide +kernel
theorem dX12_canDo_82 : decode cX12_canDo 82 = .ok (.ifCond .eq 17, 3) := by decide +kernel
theorem dX12_canDo_85 : decode cX12_canDo 85 = .ok (.aload_n 0, 1) := by decide +kernel
theorem dX12_canDo_86 : decode cX12_canDo 86 = .ok (.getfield 13, 3) := by decide +kernel
theorem dX12_canDo_89 : decode cX12_canDo 89 = .ok (.bipush 6, 2) := by decide +kernel
theorem dX12_canDo_91 : decode cX12_canDo 91 = .ok (.iaload, 1) := by decide +kernel
theorem dX12_canDo_92 : decode cX12_canDo 92 = .ok (.ifCond .ne 7, 3) := by decide +kernel
theorem dX12_canDo_95 : decode cX12_canDo 95 = .ok (.iconst 1, 1) := by decide +kernel
theorem dX12_canDo_96 : decode cX12_canDo 96 = .ok (.goto 4, 3) := by decide +kernel
theorem dX12_canDo_99 : decode cX12_canDo 99 = .ok (.iconst 0, 1) := by decide +kernel
theorem dX12_canDo_100 : decode cX12_canDo 100 = .ok (.ireturn, 1) := by decide +kernel
theorem dX12_canDo_101 : decode cX12_canDo 101 = .ok (.aload_n 0, 1) := by decide +kernel
theorem dX12_canDo_102 : decode cX12_canDo 102 = .ok (.iload_n 2, 1) := by decide +kernel
theorem dX12_canDo_103 : decode cX12_canDo 103 = .ok (.bipush 17, 2) := by decide +kernel
theorem dX12_canDo_105 : decode cX12_canDo 105 = .ok (.invokevirtual 95, 3) := by decide +kernel
theorem dX12_canDo_108 : decode cX12_canDo 108 = .ok (.iconst 1, 1) := by decide +kernel
theorem dX12_canDo_109 : decode cX12_canDo 109 = .ok (.if_icmp .ne 7, 3) := by decide +kernel
theorem dX12_canDo_112 : decode cX12_canDo 112 = .ok (.iconst 1, 1) := by decide +kernel
theorem dX12_canDo_113 : decode cX12_canDo 113 = .ok (.goto 4, 3) := by decide +kernel
theorem dX12_canDo_116 : decode cX12_canDo 116 = .ok (.iconst 0, 1) := by decide +kernel
theorem dX12_canDo_117 : decode cX12_canDo 117 = .ok (.ireturn, 1) := by decide +kernel
theorem dX12_canDo_118 : decode cX12_canDo 118 = .ok (.aload_n 0, 1) := by decide +kernel
theorem dX12_canDo_119 : decode cX12_canDo 119 = .ok (.iload_n 2, 1) := by decide +kernel
theorem dX12_canDo_120 : decode cX12_canDo 120 = .ok (.invokevirtual 271, 3) := by decide +kernel
theorem dX12_canDo_123 : decode cX12_canDo 123 = .ok (.ireturn, 1) := by decide +kernel
theorem dX12_canDo_124 : decode cX12_canDo 124 = .ok (.iload_n 2, 1) := by decide +kernel
theorem dX12_canDo_125 : decode cX12_canDo 125 = .ok (.iconst 1, 1) := by decide +kernel
theorem dX12_canDo_126 : decode cX12_canDo 126 = .ok (.iconst 4, 1) := by decide +kernel
theorem dX12_canDo_127 : decode cX12_canDo 127 = .ok (.invokestatic 87, 3) := by decide +kernel
theorem dX12_canDo_130 : decode cX12_canDo 130 = .ok (.ireturn, 1) := by decide +kernel
theorem dX12_canDo_131 : decode cX12_canDo 131 = .ok (.iload_n 3, 1) := by decide +kernel
theorem dX12_canDo_132 : decode cX12_canDo 132 = .ok (.iconst 1, 1) := by decide +kernel
theorem dX12_canDo_133 : decode cX12_canDo 133 = .ok (.bipush 60, 2) := by decide +kernel
theorem dX12_canDo_135 : decode cX12_canDo 135 = .ok (.invokestatic 87, 3) := by decide +kernel
theorem dX12_canDo_138 : decode cX12_canDo 138 = .ok (.ireturn, 1) := by decide +kernel
theorem dX12_canDo_139 : decode cX12_canDo 139 = .ok (.aload_n 0, 1) := by decide +kernel
theorem dX12_canDo_140 : decode cX12_canDo 140 = .ok (.invokevirtual 274, 3) := by decide +kernel
theorem dX12_canDo_143 : decode cX12_canDo 143 = .ok (.ifCond .ne 7, 3) := by decide +kernel
theorem dX12_canDo_146 : decode cX12_canDo 146 = .ok (.iconst 1, 1) := by decide +kernel
theorem dX12_canDo_147 : decode cX12_canDo 147 = .ok (.goto 4, 3) := by decide +kernel
theorem dX12_canDo_150 : decode cX12_canDo 150 = .ok (.iconst 0, 1) := by decide +kernel
theorem dX12_canDo_151 : decode cX12_canDo 151 = .ok (.ireturn, 1) := by decide +kernel
set_option maxRecDepth 20000 in
theorem ggX12_doIt_X12_passMinutes : GoodIn wsX12_doIt wsX12_passMinutes := goodIn_r _ [6, 1, 7, 8, 9, 5, 10, 11, 12, 13, 14, 15, 16, 17, 18, 19, 20, 21, 22, 23, 24, 25, 26, 27, 28, 29, 30, 31, 32, 33, 34, 35, 36, 37, 38, 39, 40, 41, 42, 43, 44, 45, 46, 47, 48, 49, 50, 51, 52, 53, 54, 55, 56, 57, 58, 59, 60, 61, 62, 63, 64, 65, 66, 67, 68, 69, 70, 71, 72, 73, 74, 75, 76, 77, 78, 79, 80, 81, 82, 83, 84, 93, 94, 95, 96, 97, 98, 99, 100, 101, 102, 103, 104, 105, 106, 107, 108, 109, 110, 111] rfl (by decide +kernel)
set_option maxRecDepth 20000 in
theorem gX12_doIt_X12_passMinutes : GoodIn wsX12_doIt (wsV RX12 277 RX12 yX12_passMinutes wsX12_passMinutes) := goodIn_app (goodIn_of _ (by decide +kernel)) ggX12_doIt_X12_passMinutes
set_option maxRecDepth 20000 in
theorem ggX12_doIt_X12_stopIt : GoodIn wsX12_doIt wsX12_stopIt := goodIn_r _ [88, 1, 20, 21, 22, 5, 23, 16, 17, 18, 19, 93, 94, 95, 96, 97, 98, 99, 100, 101, 102, 103, 104, 105, 106, 107, 108, 109, 110, 111] rfl (by decide +kernel)
set_option maxRecDepth 20000 in
theorem gX12_doIt_X12_stopIt : GoodIn wsX12_doIt (wsV RX12 280 RX12 yX12_stopIt wsX12_stopIt) := goodIn_app (goodIn_of _ (by decide +kernel)) ggX12_doIt_X12_stopIt
set_option maxRecDepth 20000 in
theorem ggX12_doIt_X12_redoIt : GoodIn wsX12_doIt wsX12_redoIt := goodIn_r _ [92, 20, 21, 22, 5, 23, 1, 16, 17, 18, 19, 93, 94, 95, 96, 97, 98, 99, 100, 101, 102, 103, 104, 105, 106, 107, 108, 109, 110, 111] rfl (by decide +kernel)
set_option maxRecDepth 20000 in
theorem gX12_doIt_X12_redoIt : GoodIn wsX12_doIt (wsV RX12 283 RX12 yX12_redoIt wsX12_redoIt) := goodIn_app (goodIn_of _ (by decide +kernel)) ggX12_doIt_X12_redoIt
set_option maxRecDepth 20000 in
theorem ggX12_doIt_X12_set : GoodIn wsX12_doIt wsX12_set := goodIn_r _ [19, 1, 93, 94, 95, 96, 97, 98, 99, 100, 101, 102, 103, 104, 105, 106, 107, 108, 109, 110, 111] rfl (by decide +kernel)
set_option maxRecDepth 20000 in
theorem gX12_doIt_X12_set : GoodIn wsX12_doIt (wsV RX12 126 RX12 yX12_set wsX12_set) := goodIn_app (goodIn_of _ (by decide +kernel)) ggX12_doIt_X12_set
theorem dX12_doIt_0 : decode cX12_doIt 0 = .ok (.iload_n 1, 1) := by decide +kernel
theorem dX12_doIt_1 : decode cX12_doIt 1 = .ok (.tableswitch 117 0 6 #[43, 52, 65, 78, 87, 96, 106], 43) := by decide +kernel
theorem dX12_doIt_44 : decode cX12_doIt 44 = .ok (.aload_n 0, 1) := by decide +kernel
theorem dX12_doIt_45 : decode cX12_doIt 45 = .ok (.iload_n 2, 1) := by decide +kernel
theorem dX12_doIt_46 : decode cX12_doIt 46 = .ok (.invokevirtual 277, 3) := by decide +kernel
theorem dX12_doIt_49 : decode cX12_doIt 49 = .ok (.pop, 1) := by decide +kernel
theorem dX12_doIt_50 : decode cX12_doIt 50 = .ok (.goto 76, 3) := by decide +kernel
theorem dX12_doIt_53 : decode cX12_doIt 53 = .ok (.aload_n 0, 1) := by decide +kernel
theorem dX12_doIt_54 : decode cX12_doIt 54 = .ok (.getfield 13, 3) := by decide +kernel
theorem dX12_doIt_57 : decode cX12_doIt 57 = .ok (.iconst 5, 1) := by decide +kernel
theorem dX12_doIt_58 : decode cX12_doIt 58 = .ok (.dup2, 1) := by decide +kernel
theorem dX12_doIt_59 : decode cX12_doIt 59 = .ok (.iaload, 1) := by decide +kernel
theorem dX12_doIt_60 : decode cX12_doIt 60 = .ok (.iload_n 2, 1) := by decide +kernel
theorem dX12_doIt_61 : decode cX12_doIt 61 = .ok (.iadd, 1) := by decide +kernel
theorem dX12_doIt_62 : decode cX12_doIt 62 = .ok (.iastore, 1) := by decide +kernel
theorem dX12_doIt_63 : decode cX12_doIt 63 = .ok (.goto 63, 3) := by decide +kernel
theorem dX12_doIt_66 : decode cX12_doIt 66 = .ok (.aload_n 0, 1) := by decide +kernel
theorem dX12_doIt_67 : decode cX12_doIt 67 = .ok (.getfield 13, 3) := by decide +kernel
theorem dX12_doIt_70 : decode cX12_doIt 70 = .ok (.iconst 5, 1) := by decide +kernel
theorem dX12_doIt_71 : decode cX12_doIt 71 = .ok (.dup2, 1) := by decide +kernel
theorem dX12_doIt_72 : decode cX12_doIt 72 = .ok (.iaload, 1) := by decide +kernel
theorem dX12_doIt_73 : decode cX12_doIt 73 = .ok (.iload_n 2, 1) := by decide +kernel
theorem dX12_doIt_74 : decode cX12_doIt 74 = .ok (.isub, 1) := by decide +kernel
theorem dX12_doIt_75 : decode cX12_doIt 75 = .ok (.iastore, 1) := by decide +kernel
theorem dX12_doIt_76 : decode cX12_doIt 76 = .ok (.goto 50, 3) := by decide +kernel
theorem dX12_doIt_79 : decode cX12_doIt 79 = .ok (.aload_n 0, 1) := by decide +kernel
theorem dX12_doIt_80 : decode cX12_doIt 80 = .ok (.iload_n 2, 1) := by decide +kernel
theorem dX12_doIt_81 : decode cX12_doIt 81 = .ok (.invokevirtual 280, 3) := by decide +kernel
theorem dX12_doIt_84 : decode cX12_doIt 84 = .ok (.pop, 1) := by decide +kernel
theorem dX12_doIt_85 : decode cX12_doIt 85 = .ok (.goto 41, 3) := by decide +kernel
theorem dX12_doIt_88 : decode cX12_doIt 88 = .ok (.aload_n 0, 1) := by decide +kernel
theorem dX12_doIt_89 : decode cX12_doIt 89 = .ok (.iload_n 2, 1) := by decide +kernel
theorem dX12_doIt_90 : decode cX12_doIt 90 = .ok (.invokevirtual 283, 3) := by decide +kernel
theorem dX12_doIt_93 : decode cX12_doIt 93 = .ok (.pop, 1) := by decide +kernel
theorem dX12_doIt_94 : decode cX12_doIt 94 = .ok (.goto 32, 3) := by decide +kernel
theorem dX12_doIt_97 : decode cX12_doIt 97 = .ok (.aload_n 0, 1) := by decide +kernel
theorem dX12_doIt_98 : decode cX12_doIt 98 = .ok (.getfield 13, 3) := by decide +kernel
theorem dX12_doIt_101 : decode cX12_doIt 101 = .ok (.iconst 0, 1) := by decide +kernel
theorem dX12_doIt_102 : decode cX12_doIt 102 = .ok (.iload_n 2, 1) := by decide +kernel
theorem dX12_doIt_103 : decode cX12_doIt 103 = .ok (.iastore, 1) := by decide +kernel
theorem dX12_doIt_104 : decode cX12_doIt 104 = .ok (.goto 22, 3) := by decide +kernel
theorem dX12_doIt_107 : decode cX12_doIt 107 = .ok (.aload_n 0, 1) := by decide +kernel
theorem dX12_doIt_108 : decode cX12_doIt 108 = .ok (.iload_n 2, 1) := by decide +kernel
theorem dX12_doIt_109 : decode cX12_doIt 109 = .ok (.bipush 7, 2) := by decide +kernel
theorem dX12_doIt_111 : decode cX12_doIt 111 = .ok (.iload_n 3, 1) := by decide +kernel
theorem dX12_doIt_112 : decode cX12_doIt 112 = .ok (.invokevirtual 126, 3) := by decide +kernel
theorem dX12_doIt_115 : decode cX12_doIt 115 = .ok (.goto 11, 3) := by decide +kernel
theorem dX12_doIt_118 : decode cX12_doIt 118 = .ok (.aload_n 0, 1) := by decide +kernel
theorem dX12_doIt_119 : decode cX12_doIt 119 = .ok (.getfield 13, 3) := by decide +kernel
theorem dX12_doIt_122 : decode cX12_doIt 122 = .ok (.bipush 6, 2) := by decide +kernel
theorem dX12_doIt_124 : decode cX12_doIt 124 = .ok (.iconst 1, 1) := by decide +kernel
theorem dX12_doIt_125 : decode cX12_doIt 125 = .ok (.iastore, 1) := by decide +kernel
theorem dX12_doIt_126 : decode cX12_doIt 126 = .ok (.return_, 1) := by decide +kernel
set_option maxRecDepth 20000 in
theorem ggX12_runScript_X12_begin : GoodIn wsX12_runScript wsX12_begin := goodIn_r _ [7, 8, 9, 10, 11, 12, 13, 6, 14, 1, 15, 16, 17, 18, 19, 20, 21, 22, 23, 24, 257, 258, 259, 260, 261, 262, 263, 264, 265, 266, 267, 268, 269, 270, 271, 272, 273, 274, 275] rfl (by decide +kernel)
set_option maxRecDepth 20000 in
theorem gX12_runScript_X12_begin : GoodIn wsX12_runScript (wsV RX12 80 RX12 yX12_begin wsX12_begin) := goodIn_app (goodIn_of _ (by decide +kernel)) ggX12_runScript_X12_begin
set_option maxRecDepth 20000 in
theorem ggX12_runScript_X12_parseScript : GoodIn wsX12_runScript wsX12_parseScript := goodIn_r _ [28, 17, 2, 29, 30, 31, 6, 32, 33, 34, 35, 36, 37, 38, 39, 10, 16, 15, 40, 41, 42, 43, 44, 45, 46, 47, 48, 49, 50, 51, 52, 53, 54, 55, 56, 57, 58, 59, 60, 61, 62, 63, 64, 65, 66, 67, 68, 69, 70, 71, 72, 73, 74, 75, 76, 77, 78, 79, 80, 81, 82, 83, 84, 85, 86, 87, 88, 89, 90, 91, 92, 8, 9, 11, 12, 13, 14, 1, 18, 19, 20, 21, 22, 23, 24, 93, 94, 95, 96, 97, 98, 99, 100, 101, 102, 103, 104, 105, 106, 107, 108, 109, 110, 111, 112, 113, 114, 115, 116, 117, 118, 119, 120, 121, 257, 258, 259, 260, 261, 262, 263, 264, 265, 266, 267, 268, 269, 270, 271, 272, 273, 274, 275] rfl (by decide +kernel)
set_option maxRecDepth 20000 in
theorem gX12_runScript_X12_parseScript : GoodIn wsX12_runScript (wsV RX12 286 RX12 yX12_parseScript wsX12_parseScript) := goodIn_app (goodIn_of _ (by decide +kernel)) ggX12_runScript_X12_parseScript
set_option maxRecDepth 20000 in
theorem ggX12_runScript_X12_fails : GoodIn wsX12_runScript wsX12_fails := goodIn_r _ [125, 126, 257, 258, 259, 260, 261, 262, 263, 264, 265, 266, 267, 268, 269, 270, 271, 272, 273, 274, 275] rfl (by decide +kernel)
set_option maxRecDepth 20000 in
theorem gX12_runScript_X12_fails : GoodIn wsX12_runScript (wsV RX12 167 RX12 yX12_fails wsX12_fails) := goodIn_app (goodIn_of _ (by decide +kernel)) ggX12_runScript_X12_fails
set_option maxRecDepth 20000 in
theorem ggX12_runScript_X12_remember : GoodIn wsX12_runScript wsX12_remember := goodIn_r _ [130, 131, 132, 133, 134, 6, 135, 109, 257, 258, 259, 260, 261, 262, 263, 264, 265, 266, 267, 268, 269, 270, 271, 272, 273, 274, 275] rfl (by decide +kernel)
set_option maxRecDepth 20000 in
theorem gX12_runScript_X12_remember : GoodIn wsX12_runScript (wsV RX12 289 RX12 yX12_remember wsX12_remember) := goodIn_app (goodIn_of _ (by decide +kernel)) ggX12_runScript_X12_remember
set_option maxRecDepth 20000 in
theorem ggX12_runScript_X12_canDo : GoodIn wsX12_runScript wsX12_canDo := goodIn_r _ [139, 109, 140, 141, 6, 142, 143, 144, 145, 146, 147, 148, 149, 150, 151, 152, 153, 154, 155, 156, 157, 158, 159, 160, 161, 162, 163, 164, 165, 166, 167, 168, 169, 170, 171, 172, 173, 174, 175, 176, 177, 178, 257, 258, 259, 260, 261, 262, 263, 264, 265, 266, 267, 268, 269, 270, 271, 272, 273, 274, 275] rfl (by decide +kernel)
set_option maxRecDepth 20000 in
theorem gX12_runScript_X12_canDo : GoodIn wsX12_runScript (wsV RX12 292 RX12 yX12_canDo wsX12_canDo) := goodIn_app (goodIn_of _ (by decide +kernel)) ggX12_runScript_X12_canDo
set_option maxRecDepth 20000 in
theorem ggX12_runScript_X12_doIt : GoodIn wsX12_runScript wsX12_doIt := goodIn_r _ [182, 109, 183, 184, 185, 6, 186, 187, 188, 189, 190, 191, 192, 193, 194, 195, 196, 197, 198, 199, 143, 144, 145, 146, 200, 201, 202, 203, 151, 152, 153, 154, 155, 156, 157, 158, 159, 160, 161, 162, 204, 205, 206, 207, 208, 209, 210, 211, 212, 213, 214, 215, 216, 217, 218, 219, 220, 221, 222, 223, 224, 225, 226, 227, 228, 229, 230, 231, 232, 233, 234, 235, 236, 237, 238, 239, 240, 241, 242, 243, 244, 245, 246, 247, 248, 249, 250, 251, 252, 253, 254, 255, 256, 257, 258, 259, 260, 261, 262, 263, 264, 265, 266, 267, 268, 269, 270, 271, 272, 273, 274, 275] rfl (by decide +kernel)
set_option maxRecDepth 20000 in
theorem gX12_runScript_X12_doIt : GoodIn wsX12_runScript (wsV RX12 295 RX12 yX12_doIt wsX12_doIt) := goodIn_app (goodIn_of _ (by decide +kernel)) ggX12_runScript_X12_doIt
theorem dX12_runScript_0 : decode cX12_runScript 0 = .ok (.aload_n 0, 1) := by decide +kernel
theorem dX12_runScript_1 : decode cX12_runScript 1 = .ok (.invokevirtual 80, 3) := by decide +kernel
theorem dX12_runScript_4 : decode cX12_runScript 4 = .ok (.aload_n 0, 1) := by decide +kernel
theorem dX12_runScript_5 : decode cX12_runScript 5 = .ok (.invokevirtual 286, 3) := by decide +kernel
theorem dX12_runScript_8 : decode cX12_runScript 8 = .ok (.istore_n 1, 1) := by decide +kernel
theorem dX12_runScript_9 : decode cX12_runScript 9 = .ok (.aload_n 0, 1) := by decide +kernel
theorem dX12_runScript_10 : decode cX12_runScript 10 = .ok (.iconst 0, 1) := by decide +kernel
theorem dX12_runScript_11 : decode cX12_runScript 11 = .ok (.putfield 27, 3) := by decide +kernel
theorem dX12_runScript_14 : decode cX12_runScript 14 = .ok (.aload_n 0, 1) := by decide +kernel
theorem dX12_runScript_15 : decode cX12_runScript 15 = .ok (.iload_n 1, 1) := by decide +kernel
theorem dX12_runScript_16 : decode cX12_runScript 16 = .ok (.iconst (-1), 1) := by decide +kernel
theorem dX12_runScript_17 : decode cX12_runScript 17 = .ok (.if_icmp .ne 7, 3) := by decide +kernel
theorem dX12_runScript_20 : decode cX12_runScript 20 = .ok (.iconst 1, 1) := by decide +kernel
theorem dX12_runScript_21 : decode cX12_runScript 21 = .ok (.goto 4, 3) := by decide +kernel
theorem dX12_runScript_24 : decode cX12_runScript 24 = .ok (.iconst 0, 1) := by decide +kernel
theorem dX12_runScript_25 : decode cX12_runScript 25 = .ok (.iconst 0, 1) := by decide +kernel
theorem dX12_runScript_26 : decode cX12_runScript 26 = .ok (.iconst 0, 1) := by decide +kernel
theorem dX12_runScript_27 : decode cX12_runScript 27 = .ok (.invokevirtual 167, 3) := by decide +kernel
theorem dX12_runScript_30 : decode cX12_runScript 30 = .ok (.ifCond .eq 5, 3) := by decide +kernel
theorem dX12_runScript_33 : decode cX12_runScript 33 = .ok (.iconst 0, 1) := by decide +kernel
theorem dX12_runScript_34 : decode cX12_runScript 34 = .ok (.ireturn, 1) := by decide +kernel
theorem dX12_runScript_35 : decode cX12_runScript 35 = .ok (.aload_n 0, 1) := by decide +kernel
theorem dX12_runScript_36 : decode cX12_runScript 36 = .ok (.iconst 0, 1) := by decide +kernel
theorem dX12_runScript_37 : decode cX12_runScript 37 = .ok (.invokevirtual 289, 3) := by decide +kernel
theorem dX12_runScript_40 : decode cX12_runScript 40 = .ok (.iconst 0, 1) := by decide +kernel
theorem dX12_runScript_41 : decode cX12_runScript 41 = .ok (.istore_n 2, 1) := by decide +kernel
theorem dX12_runScript_42 : decode cX12_runScript 42 = .ok (.iload_n 2, 1) := by decide +kernel
theorem dX12_runScript_43 : decode cX12_runScript 43 = .ok (.iload_n 1, 1) := by decide +kernel
theorem dX12_runScript_44 : decode cX12_runScript 44 = .ok (.if_icmp .ge 76, 3) := by decide +kernel
theorem dX12_runScript_47 : decode cX12_runScript 47 = .ok (.aload_n 0, 1) := by decide +kernel
theorem dX12_runScript_48 : decode cX12_runScript 48 = .ok (.aload_n 0, 1) := by decide +kernel
theorem dX12_runScript_49 : decode cX12_runScript 49 = .ok (.getfield 66, 3) := by decide +kernel
theorem dX12_runScript_52 : decode cX12_runScript 52 = .ok (.iload_n 2, 1) := by decide +kernel
theorem dX12_runScript_53 : decode cX12_runScript 53 = .ok (.iconst 3, 1) := by decide +kernel
theorem dX12_runScript_54 : decode cX12_runScript 54 = .ok (.imul, 1) := by decide +kernel
theorem dX12_runScript_55 : decode cX12_runScript 55 = .ok (.iaload, 1) := by decide +kernel
theorem dX12_runScript_56 : decode cX12_runScript 56 = .ok (.aload_n 0, 1) := by decide +kernel
theorem dX12_runScript_57 : decode cX12_runScript 57 = .ok (.getfield 66, 3) := by decide +kernel
theorem dX12_runScript_60 : decode cX12_runScript 60 = .ok (.iload_n 2, 1) := by decide +kernel
theorem dX12_runScript_61 : decode cX12_runScript 61 = .ok (.iconst 3, 1) := by decide +kernel
theorem dX12_runScript_62 : decode cX12_runScript 62 = .ok (.imul, 1) := by decide +kernel
theorem dX12_runScript_63 : decode cX12_runScript 63 = .ok (.iconst 1, 1) := by decide +kernel
theorem dX12_runScript_64 : decode cX12_runScript 64 = .ok (.iadd, 1) := by decide +kernel
theorem dX12_runScript_65 : decode cX12_runScript 65 = .ok (.iaload, 1) := by decide +kernel
theorem dX12_runScript_66 : decode cX12_runScript 66 = .ok (.aload_n 0, 1) := by decide +kernel
theorem dX12_runScript_67 : decode cX12_runScript 67 = .ok (.getfield 66, 3) := by decide +kernel
theorem dX12_runScript_70 : decode cX12_runScript 70 = .ok (.iload_n 2, 1) := by decide +kernel
theorem dX12_runScript_71 : decode cX12_runScript 71 = .ok (.iconst 3, 1) := by decide +kernel
theorem dX12_runScript_72 : decode cX12_runScript 72 = .ok (.imul, 1) := by decide +kernel
theorem dX12_runScript_73 : decode cX12_runScript 73 = .ok (.iconst 2, 1) := by decide +kernel
theorem dX12_runScript_74 : decode cX12_runScript 74 = .ok (.iadd, 1) := by decide +kernel
theorem dX12_runScript_75 : decode cX12_runScript 75 = .ok (.iaload, 1) := by decide +kernel
theorem dX12_runScript_76 : decode cX12_runScript 76 = .ok (.invokevirtual 292, 3) := by decide +kernel
theorem dX12_runScript_79 : decode cX12_runScript 79 = .ok (.ifCond .eq 41, 3) := by decide +kernel
theorem dX12_runScript_82 : decode cX12_runScript 82 = .ok (.aload_n 0, 1) := by decide +kernel
theorem dX12_runScript_83 : decode cX12_runScript 83 = .ok (.aload_n 0, 1) := by decide +kernel
theorem dX12_runScript_84 : decode cX12_runScript 84 = .ok (.getfield 66, 3) := by decide +kernel
theorem dX12_runScript_87 : decode cX12_runScript 87 = .ok (.iload_n 2, 1) := by decide +kernel
theorem dX12_runScript_88 : decode cX12_runScript 88 = .ok (.iconst 3, 1) := by decide +kernel
theorem dX12_runScript_89 : decode cX12_runScript 89 = .ok (.imul, 1) := by decide +kernel
theorem dX12_runScript_90 : decode cX12_runScript 90 = .ok (.iaload, 1) := by decide +kernel
theorem dX12_runScript_91 : decode cX12_runScript 91 = .ok (.aload_n 0, 1) := by decide +kernel
theorem dX12_runScript_92 : decode cX12_runScript 92 = .ok (.getfield 66, 3) := by decide +kernel
theorem dX12_runScript_95 : decode cX12_runScript 95 = .ok (.iload_n 2, 1) := by decide +kernel
theorem dX12_runScript_96 : decode cX12_runScript 96 = .ok (.iconst 3, 1) := by decide +kernel
theorem dX12_runScript_97 : decode cX12_runScript 97 = .ok (.imul, 1) := by decide +kernel
theorem dX12_runScript_98 : decode cX12_runScript 98 = .ok (.iconst 1, 1) := by decide +kernel
theorem dX12_runScript_99 : decode cX12_runScript 99 = .ok (.iadd, 1) := by decide +kernel
theorem dX12_runScript_100 : decode cX12_runScript 100 = .ok (.iaload, 1) := by decide +kernel
theorem dX12_runScript_101 : decode cX12_runScript 101 = .ok (.aload_n 0, 1) := by decide +kernel
theorem dX12_runScript_102 : decode cX12_runScript 102 = .ok (.getfield 66, 3) := by decide +kernel
theorem dX12_runScript_105 : decode cX12_runScript 105 = .ok (.iload_n 2, 1) := by decide +kernel
theorem dX12_runScript_106 : decode cX12_runScript 106 = .ok (.iconst 3, 1) := by decide +kernel
theorem dX12_runScript_107 : decode cX12_runScript 107 = .ok (.imul, 1) := by decide +kernel
theorem dX12_runScript_108 : decode cX12_runScript 108 = .ok (.iconst 2, 1) := by decide +kernel
theorem dX12_runScript_109 : decode cX12_runScript 109 = .ok (.iadd, 1) := by decide +kernel
theorem dX12_runScript_110 : decode cX12_runScript 110 = .ok (.iaload, 1) := by decide +kernel
theorem dX12_runScript_111 : decode cX12_runScript 111 = .ok (.invokevirtual 295, 3) := by decide +kernel
theorem dX12_runScript_114 : decode cX12_runScript 114 = .ok (.iinc 2 1, 3) := by decide +kernel
theorem dX12_runScript_117 : decode cX12_runScript 117 = .ok (.goto (-75), 3) := by decide +kernel
theorem dX12_runScript_120 : decode cX12_runScript 120 = .ok (.iload_n 2, 1) := by decide +kernel
theorem dX12_runScript_121 : decode cX12_runScript 121 = .ok (.ireturn, 1) := by decide +kernel
theorem dX12_errorCode_0 : decode cX12_errorCode 0 = .ok (.aload_n 0, 1) := by decide +kernel
theorem dX12_errorCode_1 : decode cX12_errorCode 1 = .ok (.iconst 0, 1) := by decide +kernel
theorem dX12_errorCode_2 : decode cX12_errorCode 2 = .ok (.putfield 1, 3) := by decide +kernel
theorem dX12_errorCode_5 : decode cX12_errorCode 5 = .ok (.aload_n 0, 1) := by decide +kernel
theorem dX12_errorCode_6 : decode cX12_errorCode 6 = .ok (.getfield 30, 3) := by decide +kernel
theorem dX12_errorCode_9 : decode cX12_errorCode 9 = .ok (.ireturn, 1) := by decide +kernel
theorem dX12_errorPosition_0 : decode cX12_errorPosition 0 = .ok (.aload_n 0, 1) := by decide +kernel
theorem dX12_errorPosition_1 : decode cX12_errorPosition 1 = .ok (.iconst 0, 1) := by decide +kernel
theorem dX12_errorPosition_2 : decode cX12_errorPosition 2 = .ok (.putfield 1, 3) := by decide +kernel
theorem dX12_errorPosition_5 : decode cX12_errorPosition 5 = .ok (.aload_n 0, 1) := by decide +kernel
theorem dX12_errorPosition_6 : decode cX12_errorPosition 6 = .ok (.getfield 33, 3) := by decide +kernel
theorem dX12_errorPosition_9 : decode cX12_errorPosition 9 = .ok (.ireturn, 1) := by decide +kernel
theorem dX12_plain_0 : decode cX12_plain 0 = .ok (.aload_n 0, 1) := by decide +kernel
theorem dX12_plain_1 : decode cX12_plain 1 = .ok (.iconst 0, 1) := by decide +kernel
theorem dX12_plain_2 : decode cX12_plain 2 = .ok (.putfield 1, 3) := by decide +kernel
theorem dX12_plain_5 : decode cX12_plain 5 = .ok (.iload_n 1, 1) := by decide +kernel
theorem dX12_plain_6 : decode cX12_plain 6 = .ok (.ireturn, 1) := by decide +kernel
set_option maxRecDepth 20000 in
theorem ggX12_stepCount_X12_plain : GoodIn wsX12_stepCount wsX12_plain := goodIn_r _ [6, 7, 8, 9, 10, 11, 12, 13, 14, 15, 16, 17, 18, 19, 20, 21, 22, 23, 24, 25, 26] rfl (by decide +kernel)
set_option maxRecDepth 20000 in
theorem gX12_stepCount_X12_plain : GoodIn wsX12_stepCount (wsV RX12 298 RX12 yX12_plain wsX12_plain) := goodIn_app (goodIn_of _ (by decide +kernel)) ggX12_stepCount_X12_plain
theorem dX12_stepCount_0 : decode cX12_stepCount 0 = .ok (.aload_n 0, 1) := by decide +kernel
theorem dX12_stepCount_1 : decode cX12_stepCount 1 = .ok (.aload_n 0, 1) := by decide +kernel
theorem dX12_stepCount_2 : decode cX12_stepCount 2 = .ok (.getfield 13, 3) := by decide +kernel
theorem dX12_stepCount_5 : decode cX12_stepCount 5 = .ok (.bipush 13, 2) := by decide +kernel
theorem dX12_stepCount_7 : decode cX12_stepCount 7 = .ok (.iaload, 1) := by decide +kernel
theorem dX12_stepCount_8 : decode cX12_stepCount 8 = .ok (.invokevirtual 298, 3) := by decide +kernel
theorem dX12_stepCount_11 : decode cX12_stepCount 11 = .ok (.ireturn, 1) := by decide +kernel
set_option maxRecDepth 20000 in
theorem ggX12_cooks_X12_plain : GoodIn wsX12_cooks wsX12_plain := goodIn_r _ [6, 7, 8, 9, 10, 11, 12, 13, 14, 15, 16, 17, 18, 19, 20, 21, 22, 23, 24, 25, 26] rfl (by decide +kernel)
set_option maxRecDepth 20000 in
theorem gX12_cooks_X12_plain : GoodIn wsX12_cooks (wsV RX12 298 RX12 yX12_plain wsX12_plain) := goodIn_app (goodIn_of _ (by decide +kernel)) ggX12_cooks_X12_plain
theorem dX12_cooks_0 : decode cX12_cooks 0 = .ok (.aload_n 0, 1) := by decide +kernel
theorem dX12_cooks_1 : decode cX12_cooks 1 = .ok (.aload_n 0, 1) := by decide +kernel
theorem dX12_cooks_2 : decode cX12_cooks 2 = .ok (.getfield 13, 3) := by decide +kernel
theorem dX12_cooks_5 : decode cX12_cooks 5 = .ok (.iconst 0, 1) := by decide +kernel
theorem dX12_cooks_6 : decode cX12_cooks 6 = .ok (.iaload, 1) := by decide +kernel
theorem dX12_cooks_7 : decode cX12_cooks 7 = .ok (.invokevirtual 298, 3) := by decide +kernel
theorem dX12_cooks_10 : decode cX12_cooks 10 = .ok (.ireturn, 1) := by decide +kernel
set_option maxRecDepth 20000 in
theorem ggX12_minute_X12_plain : GoodIn wsX12_minute wsX12_plain := goodIn_r _ [6, 7, 8, 9, 10, 11, 12, 13, 14, 15, 16, 17, 18, 19, 20, 21, 22, 23, 24, 25, 26] rfl (by decide +kernel)
set_option maxRecDepth 20000 in
theorem gX12_minute_X12_plain : GoodIn wsX12_minute (wsV RX12 298 RX12 yX12_plain wsX12_plain) := goodIn_app (goodIn_of _ (by decide +kernel)) ggX12_minute_X12_plain
theorem dX12_minute_0 : decode cX12_minute 0 = .ok (.aload_n 0, 1) := by decide +kernel
theorem dX12_minute_1 : decode cX12_minute 1 = .ok (.aload_n 0, 1) := by decide +kernel
theorem dX12_minute_2 : decode cX12_minute 2 = .ok (.getfield 13, 3) := by decide +kernel
theorem dX12_minute_5 : decode cX12_minute 5 = .ok (.iconst 4, 1) := by decide +kernel
theorem dX12_minute_6 : decode cX12_minute 6 = .ok (.iaload, 1) := by decide +kernel
theorem dX12_minute_7 : decode cX12_minute 7 = .ok (.invokevirtual 298, 3) := by decide +kernel
theorem dX12_minute_10 : decode cX12_minute 10 = .ok (.ireturn, 1) := by decide +kernel
set_option maxRecDepth 20000 in
theorem ggX12_salt_X12_plain : GoodIn wsX12_salt wsX12_plain := goodIn_r _ [6, 7, 8, 9, 10, 11, 12, 13, 14, 15, 16, 17, 18, 19, 20, 21, 22, 23, 24, 25, 26] rfl (by decide +kernel)
set_option maxRecDepth 20000 in
theorem gX12_salt_X12_plain : GoodIn wsX12_salt (wsV RX12 298 RX12 yX12_plain wsX12_plain) := goodIn_app (goodIn_of _ (by decide +kernel)) ggX12_salt_X12_plain
theorem dX12_salt_0 : decode cX12_salt 0 = .ok (.aload_n 0, 1) := by decide +kernel
theorem dX12_salt_1 : decode cX12_salt 1 = .ok (.aload_n 0, 1) := by decide +kernel
theorem dX12_salt_2 : decode cX12_salt 2 = .ok (.getfield 13, 3) := by decide +kernel
theorem dX12_salt_5 : decode cX12_salt 5 = .ok (.iconst 5, 1) := by decide +kernel
theorem dX12_salt_6 : decode cX12_salt 6 = .ok (.iaload, 1) := by decide +kernel
theorem dX12_salt_7 : decode cX12_salt 7 = .ok (.invokevirtual 298, 3) := by decide +kernel
theorem dX12_salt_10 : decode cX12_salt 10 = .ok (.ireturn, 1) := by decide +kernel
set_option maxRecDepth 20000 in
theorem ggX12_taste_X12_tasteNow : GoodIn wsX12_taste wsX12_tasteNow := goodIn_r _ [5, 6, 7, 8, 9, 4, 10, 16, 17, 18, 19, 20, 21, 22, 23, 24, 25, 26, 27, 28, 29, 30, 31, 32, 33, 34] rfl (by decide +kernel)
set_option maxRecDepth 20000 in
theorem gX12_taste_X12_tasteNow : GoodIn wsX12_taste (wsV RX12 164 RX12 yX12_tasteNow wsX12_tasteNow) := goodIn_app (goodIn_of _ (by decide +kernel)) ggX12_taste_X12_tasteNow
set_option maxRecDepth 20000 in
theorem ggX12_taste_X12_plain : GoodIn wsX12_taste wsX12_plain := goodIn_r _ [14, 15, 16, 17, 18, 19, 20, 21, 22, 23, 24, 25, 26, 27, 28, 29, 30, 31, 32, 33, 34] rfl (by decide +kernel)
set_option maxRecDepth 20000 in
theorem gX12_taste_X12_plain : GoodIn wsX12_taste (wsV RX12 298 RX12 yX12_plain wsX12_plain) := goodIn_app (goodIn_of _ (by decide +kernel)) ggX12_taste_X12_plain
theorem dX12_taste_0 : decode cX12_taste 0 = .ok (.aload_n 0, 1) := by decide +kernel
theorem dX12_taste_1 : decode cX12_taste 1 = .ok (.aload_n 0, 1) := by decide +kernel
theorem dX12_taste_2 : decode cX12_taste 2 = .ok (.invokevirtual 164, 3) := by decide +kernel
theorem dX12_taste_5 : decode cX12_taste 5 = .ok (.invokevirtual 298, 3) := by decide +kernel
theorem dX12_taste_8 : decode cX12_taste 8 = .ok (.ireturn, 1) := by decide +kernel
set_option maxRecDepth 20000 in
theorem ggX12_countWithStatus_X12_in : GoodIn wsX12_countWithStatus wsX12_in := goodIn_r _ [4] rfl (by decide +kernel)
set_option maxRecDepth 20000 in
theorem gX12_countWithStatus_X12_in : GoodIn wsX12_countWithStatus (va_wsS RX12 87 yX12_in wsX12_in) := goodIn_app (goodIn_of _ (by decide +kernel)) ggX12_countWithStatus_X12_in
set_option maxRecDepth 20000 in
theorem ggX12_countWithStatus_X12_fails : GoodIn wsX12_countWithStatus wsX12_fails := goodIn_r _ [8, 9, 19, 20, 21, 22, 23, 24, 25, 26, 27, 28, 29, 30, 31, 32, 33, 34, 35, 36, 37] rfl (by decide +kernel)
set_option maxRecDepth 20000 in
theorem gX12_countWithStatus_X12_fails : GoodIn wsX12_countWithStatus (wsV RX12 167 RX12 yX12_fails wsX12_fails) := goodIn_app (goodIn_of _ (by decide +kernel)) ggX12_countWithStatus_X12_fails
set_option maxRecDepth 20000 in
theorem ggX12_countWithStatus_X12_withStatus : GoodIn wsX12_countWithStatus wsX12_withStatus := goodIn_r _ [13, 14, 15, 16, 17, 3, 18, 19, 20, 21, 22, 23, 24, 25, 26, 27, 28, 29, 30, 31, 32, 33, 34, 35, 36, 37] rfl (by decide +kernel)
set_option maxRecDepth 20000 in
theorem gX12_countWithStatus_X12_withStatus : GoodIn wsX12_countWithStatus (wsV RX12 123 RX12 yX12_withStatus wsX12_withStatus) := goodIn_app (goodIn_of _ (by decide +kernel)) ggX12_countWithStatus_X12_withStatus
theorem dX12_countWithStatus_0 : decode cX12_countWithStatus 0 = .ok (.aload_n 0, 1) := by decide +kernel
theorem dX12_countWithStatus_1 : decode cX12_countWithStatus 1 = .ok (.iload_n 1, 1) := by decide +kernel
theorem dX12_countWithStatus_2 : decode cX12_countWithStatus 2 = .ok (.iconst 0, 1) := by decide +kernel
theorem dX12_countWithStatus_3 : decode cX12_countWithStatus 3 = .ok (.iconst 3, 1) := by decide +kernel
theorem dX12_countWithStatus_4 : decode cX12_countWithStatus 4 = .ok (.invokestatic 87, 3) := by decide +kernel
theorem dX12_countWithStatus_7 : decode cX12_countWithStatus 7 = .ok (.ifCond .ne 7, 3) := by decide +kernel
theorem dX12_countWithStatus_10 : decode cX12_countWithStatus 10 = .ok (.iconst 1, 1) := by decide +kernel
theorem dX12_countWithStatus_11 : decode cX12_countWithStatus 11 = .ok (.goto 4, 3) := by decide +kernel
theorem dX12_countWithStatus_14 : decode cX12_countWithStatus 14 = .ok (.iconst 0, 1) := by decide +kernel
theorem dX12_countWithStatus_15 : decode cX12_countWithStatus 15 = .ok (.iconst 0, 1) := by decide +kernel
theorem dX12_countWithStatus_16 : decode cX12_countWithStatus 16 = .ok (.iconst 0, 1) := by decide +kernel
theorem dX12_countWithStatus_17 : decode cX12_countWithStatus 17 = .ok (.invokevirtual 167, 3) := by decide +kernel
theorem dX12_countWithStatus_20 : decode cX12_countWithStatus 20 = .ok (.ifCond .eq 5, 3) := by decide +kernel
theorem dX12_countWithStatus_23 : decode cX12_countWithStatus 23 = .ok (.iconst 0, 1) := by decide +kernel
theorem dX12_countWithStatus_24 : decode cX12_countWithStatus 24 = .ok (.ireturn, 1) := by decide +kernel
theorem dX12_countWithStatus_25 : decode cX12_countWithStatus 25 = .ok (.aload_n 0, 1) := by decide +kernel
theorem dX12_countWithStatus_26 : decode cX12_countWithStatus 26 = .ok (.iload_n 1, 1) := by decide +kernel
theorem dX12_countWithStatus_27 : decode cX12_countWithStatus 27 = .ok (.invokevirtual 123, 3) := by decide +kernel
theorem dX12_countWithStatus_30 : decode cX12_countWithStatus 30 = .ok (.ireturn, 1) := by decide +kernel
set_option maxRecDepth 20000 in
theorem ggX12_starts_X12_plain : GoodIn wsX12_starts wsX12_plain := goodIn_r _ [6, 7, 8, 9, 10, 11, 12, 13, 14, 15, 16, 17, 18, 19, 20, 21, 22, 23, 24, 25, 26] rfl (by decide +kernel)
set_option maxRecDepth 20000 in
theorem gX12_starts_X12_plain : GoodIn wsX12_starts (wsV RX12 298 RX12 yX12_plain wsX12_plain) := goodIn_app (goodIn_of _ (by decide +kernel)) ggX12_starts_X12_plain
theorem dX12_starts_0 : decode cX12_starts 0 = .ok (.aload_n 0, 1) := by decide +kernel
theorem dX12_starts_1 : decode cX12_starts 1 = .ok (.aload_n 0, 1) := by decide +kernel
theorem dX12_starts_2 : decode cX12_starts 2 = .ok (.getfield 13, 3) := by decide +kernel
theorem dX12_starts_5 : decode cX12_starts 5 = .ok (.bipush 7, 2) := by decide +kernel
theorem dX12_starts_7 : decode cX12_starts 7 = .ok (.iaload, 1) := by decide +kernel
theorem dX12_starts_8 : decode cX12_starts 8 = .ok (.invokevirtual 298, 3) := by decide +kernel
theorem dX12_starts_11 : decode cX12_starts 11 = .ok (.ireturn, 1) := by decide +kernel
set_option maxRecDepth 20000 in
theorem ggX12_completions_X12_plain : GoodIn wsX12_completions wsX12_plain := goodIn_r _ [6, 7, 8, 9, 10, 11, 12, 13, 14, 15, 16, 17, 18, 19, 20, 21, 22, 23, 24, 25, 26] rfl (by decide +kernel)
set_option maxRecDepth 20000 in
theorem gX12_completions_X12_plain : GoodIn wsX12_completions (wsV RX12 298 RX12 yX12_plain wsX12_plain) := goodIn_app (goodIn_of _ (by decide +kernel)) ggX12_completions_X12_plain
theorem dX12_completions_0 : decode cX12_completions 0 = .ok (.aload_n 0, 1) := by decide +kernel
theorem dX12_completions_1 : decode cX12_completions 1 = .ok (.aload_n 0, 1) := by decide +kernel
theorem dX12_completions_2 : decode cX12_completions 2 = .ok (.getfield 13, 3) := by decide +kernel
theorem dX12_completions_5 : decode cX12_completions 5 = .ok (.bipush 8, 2) := by decide +kernel
theorem dX12_completions_7 : decode cX12_completions 7 = .ok (.iaload, 1) := by decide +kernel
theorem dX12_completions_8 : decode cX12_completions 8 = .ok (.invokevirtual 298, 3) := by decide +kernel
theorem dX12_completions_11 : decode cX12_completions 11 = .ok (.ireturn, 1) := by decide +kernel
set_option maxRecDepth 20000 in
theorem ggX12_burns_X12_plain : GoodIn wsX12_burns wsX12_plain := goodIn_r _ [6, 7, 8, 9, 10, 11, 12, 13, 14, 15, 16, 17, 18, 19, 20, 21, 22, 23, 24, 25, 26] rfl (by decide +kernel)
set_option maxRecDepth 20000 in
theorem gX12_burns_X12_plain : GoodIn wsX12_burns (wsV RX12 298 RX12 yX12_plain wsX12_plain) := goodIn_app (goodIn_of _ (by decide +kernel)) ggX12_burns_X12_plain
theorem dX12_burns_0 : decode cX12_burns 0 = .ok (.aload_n 0, 1) := by decide +kernel
theorem dX12_burns_1 : decode cX12_burns 1 = .ok (.aload_n 0, 1) := by decide +kernel
theorem dX12_burns_2 : decode cX12_burns 2 = .ok (.getfield 13, 3) := by decide +kernel
theorem dX12_burns_5 : decode cX12_burns 5 = .ok (.bipush 9, 2) := by decide +kernel
theorem dX12_burns_7 : decode cX12_burns 7 = .ok (.iaload, 1) := by decide +kernel
theorem dX12_burns_8 : decode cX12_burns 8 = .ok (.invokevirtual 298, 3) := by decide +kernel
theorem dX12_burns_11 : decode cX12_burns 11 = .ok (.ireturn, 1) := by decide +kernel
set_option maxRecDepth 20000 in
theorem ggX12_cookMinutes_X12_plain : GoodIn wsX12_cookMinutes wsX12_plain := goodIn_r _ [6, 7, 8, 9, 10, 11, 12, 13, 14, 15, 16, 17, 18, 19, 20, 21, 22, 23, 24, 25, 26] rfl (by decide +kernel)
set_option maxRecDepth 20000 in
theorem gX12_cookMinutes_X12_plain : GoodIn wsX12_cookMinutes (wsV RX12 298 RX12 yX12_plain wsX12_plain) := goodIn_app (goodIn_of _ (by decide +kernel)) ggX12_cookMinutes_X12_plain
theorem dX12_cookMinutes_0 : decode cX12_cookMinutes 0 = .ok (.aload_n 0, 1) := by decide +kernel
theorem dX12_cookMinutes_1 : decode cX12_cookMinutes 1 = .ok (.aload_n 0, 1) := by decide +kernel
theorem dX12_cookMinutes_2 : decode cX12_cookMinutes 2 = .ok (.getfield 13, 3) := by decide +kernel
theorem dX12_cookMinutes_5 : decode cX12_cookMinutes 5 = .ok (.bipush 10, 2) := by decide +kernel
theorem dX12_cookMinutes_7 : decode cX12_cookMinutes 7 = .ok (.iaload, 1) := by decide +kernel
theorem dX12_cookMinutes_8 : decode cX12_cookMinutes 8 = .ok (.invokevirtual 298, 3) := by decide +kernel
theorem dX12_cookMinutes_11 : decode cX12_cookMinutes 11 = .ok (.ireturn, 1) := by decide +kernel
set_option maxRecDepth 20000 in
theorem ggX12_panCapacity_X12_isPan : GoodIn wsX12_panCapacity wsX12_isPan := goodIn_r _ [5, 6, 7, 8, 4, 9, 19, 20, 21, 22, 23, 24, 25, 26, 27, 28, 29, 30, 31, 32, 33, 34, 35, 36, 37] rfl (by decide +kernel)
set_option maxRecDepth 20000 in
theorem gX12_panCapacity_X12_isPan : GoodIn wsX12_panCapacity (wsV RX12 301 RX12 yX12_isPan wsX12_isPan) := goodIn_app (goodIn_of _ (by decide +kernel)) ggX12_panCapacity_X12_isPan
set_option maxRecDepth 20000 in
theorem ggX12_panCapacity_X12_fails : GoodIn wsX12_panCapacity wsX12_fails := goodIn_r _ [13, 14, 19, 20, 21, 22, 23, 24, 25, 26, 27, 28, 29, 30, 31, 32, 33, 34, 35, 36, 37] rfl (by decide +kernel)
set_option maxRecDepth 20000 in
theorem gX12_panCapacity_X12_fails : GoodIn wsX12_panCapacity (wsV RX12 167 RX12 yX12_fails wsX12_fails) := goodIn_app (goodIn_of _ (by decide +kernel)) ggX12_panCapacity_X12_fails
set_option maxRecDepth 20000 in
theorem ggX12_panCapacity_X12_capacity : GoodIn wsX12_panCapacity wsX12_capacity := goodIn_r _ [18, 6, 19, 20, 21, 22, 23, 24, 25, 26, 27, 28, 29, 30, 31, 32, 33, 34, 35, 36, 37] rfl (by decide +kernel)
set_option maxRecDepth 20000 in
theorem gX12_panCapacity_X12_capacity : GoodIn wsX12_panCapacity (wsV RX12 116 RX12 yX12_capacity wsX12_capacity) := goodIn_app (goodIn_of _ (by decide +kernel)) ggX12_panCapacity_X12_capacity
theorem dX12_panCapacity_0 : decode cX12_panCapacity 0 = .ok (.aload_n 0, 1) := by decide +kernel
theorem dX12_panCapacity_1 : decode cX12_panCapacity 1 = .ok (.aload_n 0, 1) := by decide +kernel
theorem dX12_panCapacity_2 : decode cX12_panCapacity 2 = .ok (.iload_n 1, 1) := by decide +kernel
theorem dX12_panCapacity_3 : decode cX12_panCapacity 3 = .ok (.invokevirtual 301, 3) := by decide +kernel
theorem dX12_panCapacity_6 : decode cX12_panCapacity 6 = .ok (.ifCond .ne 7, 3) := by decide +kernel
theorem dX12_panCapacity_9 : decode cX12_panCapacity 9 = .ok (.iconst 1, 1) := by decide +kernel
theorem dX12_panCapacity_10 : decode cX12_panCapacity 10 = .ok (.goto 4, 3) := by decide +kernel
theorem dX12_panCapacity_13 : decode cX12_panCapacity 13 = .ok (.iconst 0, 1) := by decide +kernel
theorem dX12_panCapacity_14 : decode cX12_panCapacity 14 = .ok (.iconst 0, 1) := by decide +kernel
theorem dX12_panCapacity_15 : decode cX12_panCapacity 15 = .ok (.iconst 0, 1) := by decide +kernel
theorem dX12_panCapacity_16 : decode cX12_panCapacity 16 = .ok (.invokevirtual 167, 3) := by decide +kernel
theorem dX12_panCapacity_19 : decode cX12_panCapacity 19 = .ok (.ifCond .eq 5, 3) := by decide +kernel
theorem dX12_panCapacity_22 : decode cX12_panCapacity 22 = .ok (.iconst 0, 1) := by decide +kernel
theorem dX12_panCapacity_23 : decode cX12_panCapacity 23 = .ok (.ireturn, 1) := by decide +kernel
theorem dX12_panCapacity_24 : decode cX12_panCapacity 24 = .ok (.aload_n 0, 1) := by decide +kernel
theorem dX12_panCapacity_25 : decode cX12_panCapacity 25 = .ok (.iload_n 1, 1) := by decide +kernel
theorem dX12_panCapacity_26 : decode cX12_panCapacity 26 = .ok (.invokevirtual 116, 3) := by decide +kernel
theorem dX12_panCapacity_29 : decode cX12_panCapacity 29 = .ok (.ireturn, 1) := by decide +kernel
set_option maxRecDepth 20000 in
theorem ggX12_pansInUse_X12_isPan : GoodIn wsX12_pansInUse wsX12_isPan := goodIn_r _ [5, 6, 7, 8, 4, 9, 35, 36, 37, 38, 39, 40, 41, 42, 43, 44, 45, 46, 47, 48, 49, 50, 51, 52, 53] rfl (by decide +kernel)
set_option maxRecDepth 20000 in
theorem gX12_pansInUse_X12_isPan : GoodIn wsX12_pansInUse (wsV RX12 301 RX12 yX12_isPan wsX12_isPan) := goodIn_app (goodIn_of _ (by decide +kernel)) ggX12_pansInUse_X12_isPan
set_option maxRecDepth 20000 in
theorem ggX12_pansInUse_X12_fails : GoodIn wsX12_pansInUse wsX12_fails := goodIn_r _ [13, 14, 35, 36, 37, 38, 39, 40, 41, 42, 43, 44, 45, 46, 47, 48, 49, 50, 51, 52, 53] rfl (by decide +kernel)
set_option maxRecDepth 20000 in
theorem gX12_pansInUse_X12_fails : GoodIn wsX12_pansInUse (wsV RX12 167 RX12 yX12_fails wsX12_fails) := goodIn_app (goodIn_of _ (by decide +kernel)) ggX12_pansInUse_X12_fails
set_option maxRecDepth 20000 in
theorem ggX12_pansInUse_X12_usedPans : GoodIn wsX12_pansInUse wsX12_usedPans := goodIn_r _ [18, 6, 19, 20, 21, 4, 22, 23, 24, 25, 26, 27, 28, 29, 30, 31, 32, 33, 34, 35, 36, 37, 38, 39, 40, 41, 42, 43, 44, 45, 46, 47, 48, 49, 50, 51, 52, 53] rfl (by decide +kernel)
set_option maxRecDepth 20000 in
theorem gX12_pansInUse_X12_usedPans : GoodIn wsX12_pansInUse (wsV RX12 113 RX12 yX12_usedPans wsX12_usedPans) := goodIn_app (goodIn_of _ (by decide +kernel)) ggX12_pansInUse_X12_usedPans
theorem dX12_pansInUse_0 : decode cX12_pansInUse 0 = .ok (.aload_n 0, 1) := by decide +kernel
theorem dX12_pansInUse_1 : decode cX12_pansInUse 1 = .ok (.aload_n 0, 1) := by decide +kernel
theorem dX12_pansInUse_2 : decode cX12_pansInUse 2 = .ok (.iload_n 1, 1) := by decide +kernel
theorem dX12_pansInUse_3 : decode cX12_pansInUse 3 = .ok (.invokevirtual 301, 3) := by decide +kernel
theorem dX12_pansInUse_6 : decode cX12_pansInUse 6 = .ok (.ifCond .ne 7, 3) := by decide +kernel
theorem dX12_pansInUse_9 : decode cX12_pansInUse 9 = .ok (.iconst 1, 1) := by decide +kernel
theorem dX12_pansInUse_10 : decode cX12_pansInUse 10 = .ok (.goto 4, 3) := by decide +kernel
theorem dX12_pansInUse_13 : decode cX12_pansInUse 13 = .ok (.iconst 0, 1) := by decide +kernel
theorem dX12_pansInUse_14 : decode cX12_pansInUse 14 = .ok (.iconst 0, 1) := by decide +kernel
theorem dX12_pansInUse_15 : decode cX12_pansInUse 15 = .ok (.iconst 0, 1) := by decide +kernel
theorem dX12_pansInUse_16 : decode cX12_pansInUse 16 = .ok (.invokevirtual 167, 3) := by decide +kernel
theorem dX12_pansInUse_19 : decode cX12_pansInUse 19 = .ok (.ifCond .eq 5, 3) := by decide +kernel
theorem dX12_pansInUse_22 : decode cX12_pansInUse 22 = .ok (.iconst 0, 1) := by decide +kernel
theorem dX12_pansInUse_23 : decode cX12_pansInUse 23 = .ok (.ireturn, 1) := by decide +kernel
theorem dX12_pansInUse_24 : decode cX12_pansInUse 24 = .ok (.aload_n 0, 1) := by decide +kernel
theorem dX12_pansInUse_25 : decode cX12_pansInUse 25 = .ok (.iload_n 1, 1) := by decide +kernel
theorem dX12_pansInUse_26 : decode cX12_pansInUse 26 = .ok (.invokevirtual 113, 3) := by decide +kernel
theorem dX12_pansInUse_29 : decode cX12_pansInUse 29 = .ok (.ireturn, 1) := by decide +kernel
set_option maxRecDepth 20000 in
theorem ggX12_field_X12_isStep : GoodIn wsX12_field wsX12_isStep := goodIn_r _ [5, 6, 7, 8, 4, 9, 19, 20, 21, 22, 23, 24, 25, 26, 27, 28, 29, 30, 31, 32, 33, 34, 35, 36, 37] rfl (by decide +kernel)
set_option maxRecDepth 20000 in
theorem gX12_field_X12_isStep : GoodIn wsX12_field (wsV RX12 304 RX12 yX12_isStep wsX12_isStep) := goodIn_app (goodIn_of _ (by decide +kernel)) ggX12_field_X12_isStep
set_option maxRecDepth 20000 in
theorem ggX12_field_X12_fails : GoodIn wsX12_field wsX12_fails := goodIn_r _ [13, 14, 19, 20, 21, 22, 23, 24, 25, 26, 27, 28, 29, 30, 31, 32, 33, 34, 35, 36, 37] rfl (by decide +kernel)
set_option maxRecDepth 20000 in
theorem gX12_field_X12_fails : GoodIn wsX12_field (wsV RX12 167 RX12 yX12_fails wsX12_fails) := goodIn_app (goodIn_of _ (by decide +kernel)) ggX12_field_X12_fails
set_option maxRecDepth 20000 in
theorem ggX12_field_X12_of : GoodIn wsX12_field wsX12_of := goodIn_r _ [18, 6, 19, 20, 21, 22, 23, 24, 25, 26, 27, 28, 29, 30, 31, 32, 33, 34, 35, 36, 37] rfl (by decide +kernel)
set_option maxRecDepth 20000 in
theorem gX12_field_X12_of : GoodIn wsX12_field (wsV RX12 95 RX12 yX12_of wsX12_of) := goodIn_app (goodIn_of _ (by decide +kernel)) ggX12_field_X12_of
theorem dX12_field_0 : decode cX12_field 0 = .ok (.aload_n 0, 1) := by decide +kernel
theorem dX12_field_1 : decode cX12_field 1 = .ok (.aload_n 0, 1) := by decide +kernel
theorem dX12_field_2 : decode cX12_field 2 = .ok (.iload_n 1, 1) := by decide +kernel
theorem dX12_field_3 : decode cX12_field 3 = .ok (.invokevirtual 304, 3) := by decide +kernel
theorem dX12_field_6 : decode cX12_field 6 = .ok (.ifCond .ne 7, 3) := by decide +kernel
theorem dX12_field_9 : decode cX12_field 9 = .ok (.iconst 1, 1) := by decide +kernel
theorem dX12_field_10 : decode cX12_field 10 = .ok (.goto 4, 3) := by decide +kernel
theorem dX12_field_13 : decode cX12_field 13 = .ok (.iconst 0, 1) := by decide +kernel
theorem dX12_field_14 : decode cX12_field 14 = .ok (.iconst 0, 1) := by decide +kernel
theorem dX12_field_15 : decode cX12_field 15 = .ok (.iconst 0, 1) := by decide +kernel
theorem dX12_field_16 : decode cX12_field 16 = .ok (.invokevirtual 167, 3) := by decide +kernel
theorem dX12_field_19 : decode cX12_field 19 = .ok (.ifCond .eq 5, 3) := by decide +kernel
theorem dX12_field_22 : decode cX12_field 22 = .ok (.iconst 0, 1) := by decide +kernel
theorem dX12_field_23 : decode cX12_field 23 = .ok (.ireturn, 1) := by decide +kernel
theorem dX12_field_24 : decode cX12_field 24 = .ok (.aload_n 0, 1) := by decide +kernel
theorem dX12_field_25 : decode cX12_field 25 = .ok (.iload_n 1, 1) := by decide +kernel
theorem dX12_field_26 : decode cX12_field 26 = .ok (.iload_n 2, 1) := by decide +kernel
theorem dX12_field_27 : decode cX12_field 27 = .ok (.invokevirtual 95, 3) := by decide +kernel
theorem dX12_field_30 : decode cX12_field 30 = .ok (.ireturn, 1) := by decide +kernel
set_option maxRecDepth 20000 in
theorem ggX12_duration_X12_field : GoodIn wsX12_duration wsX12_field := goodIn_r _ [5, 6, 7, 8, 4, 9, 10, 11, 12, 13, 14, 15, 16, 17, 18, 19, 20, 21, 22, 23, 24, 25, 26, 27, 28, 29, 30, 31, 32, 33, 34, 35, 36, 37, 38, 39, 40, 41] rfl (by decide +kernel)
set_option maxRecDepth 20000 in
theorem gX12_duration_X12_field : GoodIn wsX12_duration (wsV RX12 307 RX12 yX12_field wsX12_field) := goodIn_app (goodIn_of _ (by decide +kernel)) ggX12_duration_X12_field
theorem dX12_duration_0 : decode cX12_duration 0 = .ok (.aload_n 0, 1) := by decide +kernel
theorem dX12_duration_1 : decode cX12_duration 1 = .ok (.iload_n 1, 1) := by decide +kernel
theorem dX12_duration_2 : decode cX12_duration 2 = .ok (.bipush 7, 2) := by decide +kernel
theorem dX12_duration_4 : decode cX12_duration 4 = .ok (.invokevirtual 307, 3) := by decide +kernel
theorem dX12_duration_7 : decode cX12_duration 7 = .ok (.ireturn, 1) := by decide +kernel
set_option maxRecDepth 20000 in
theorem ggX12_stepTaste_X12_field : GoodIn wsX12_stepTaste wsX12_field := goodIn_r _ [5, 6, 7, 8, 4, 9, 10, 11, 12, 13, 14, 15, 16, 17, 18, 19, 20, 21, 22, 23, 24, 25, 26, 27, 28, 29, 30, 31, 32, 33, 34, 35, 36, 37, 38, 39, 40, 41] rfl (by decide +kernel)
set_option maxRecDepth 20000 in
theorem gX12_stepTaste_X12_field : GoodIn wsX12_stepTaste (wsV RX12 307 RX12 yX12_field wsX12_field) := goodIn_app (goodIn_of _ (by decide +kernel)) ggX12_stepTaste_X12_field
theorem dX12_stepTaste_0 : decode cX12_stepTaste 0 = .ok (.aload_n 0, 1) := by decide +kernel
theorem dX12_stepTaste_1 : decode cX12_stepTaste 1 = .ok (.iload_n 1, 1) := by decide +kernel
theorem dX12_stepTaste_2 : decode cX12_stepTaste 2 = .ok (.bipush 8, 2) := by decide +kernel
theorem dX12_stepTaste_4 : decode cX12_stepTaste 4 = .ok (.invokevirtual 307, 3) := by decide +kernel
theorem dX12_stepTaste_7 : decode cX12_stepTaste 7 = .ok (.ireturn, 1) := by decide +kernel
set_option maxRecDepth 20000 in
theorem ggX12_panType_X12_field : GoodIn wsX12_panType wsX12_field := goodIn_r _ [5, 6, 7, 8, 4, 9, 10, 11, 12, 13, 14, 15, 16, 17, 18, 19, 20, 21, 22, 23, 24, 25, 26, 27, 28, 29, 30, 31, 32, 33, 34, 35, 36, 37, 38, 39, 40, 41] rfl (by decide +kernel)
set_option maxRecDepth 20000 in
theorem gX12_panType_X12_field : GoodIn wsX12_panType (wsV RX12 307 RX12 yX12_field wsX12_field) := goodIn_app (goodIn_of _ (by decide +kernel)) ggX12_panType_X12_field
theorem dX12_panType_0 : decode cX12_panType 0 = .ok (.aload_n 0, 1) := by decide +kernel
theorem dX12_panType_1 : decode cX12_panType 1 = .ok (.iload_n 1, 1) := by decide +kernel
theorem dX12_panType_2 : decode cX12_panType 2 = .ok (.bipush 9, 2) := by decide +kernel
theorem dX12_panType_4 : decode cX12_panType 4 = .ok (.invokevirtual 307, 3) := by decide +kernel
theorem dX12_panType_7 : decode cX12_panType 7 = .ok (.ireturn, 1) := by decide +kernel
set_option maxRecDepth 20000 in
theorem ggX12_isHot_X12_field : GoodIn wsX12_isHot wsX12_field := goodIn_r _ [5, 6, 7, 8, 4, 9, 10, 11, 12, 13, 14, 15, 16, 17, 18, 19, 20, 21, 22, 23, 24, 25, 26, 27, 28, 29, 30, 31, 32, 33, 34, 35, 36, 37, 38, 39, 40, 41] rfl (by decide +kernel)
set_option maxRecDepth 20000 in
theorem gX12_isHot_X12_field : GoodIn wsX12_isHot (wsV RX12 307 RX12 yX12_field wsX12_field) := goodIn_app (goodIn_of _ (by decide +kernel)) ggX12_isHot_X12_field
theorem dX12_isHot_0 : decode cX12_isHot 0 = .ok (.aload_n 0, 1) := by decide +kernel
theorem dX12_isHot_1 : decode cX12_isHot 1 = .ok (.iload_n 1, 1) := by decide +kernel
theorem dX12_isHot_2 : decode cX12_isHot 2 = .ok (.bipush 10, 2) := by decide +kernel
theorem dX12_isHot_4 : decode cX12_isHot 4 = .ok (.invokevirtual 307, 3) := by decide +kernel
theorem dX12_isHot_7 : decode cX12_isHot 7 = .ok (.iconst 1, 1) := by decide +kernel
theorem dX12_isHot_8 : decode cX12_isHot 8 = .ok (.if_icmp .ne 7, 3) := by decide +kernel
theorem dX12_isHot_11 : decode cX12_isHot 11 = .ok (.iconst 1, 1) := by decide +kernel
theorem dX12_isHot_12 : decode cX12_isHot 12 = .ok (.goto 4, 3) := by decide +kernel
theorem dX12_isHot_15 : decode cX12_isHot 15 = .ok (.iconst 0, 1) := by decide +kernel
theorem dX12_isHot_16 : decode cX12_isHot 16 = .ok (.ireturn, 1) := by decide +kernel
set_option maxRecDepth 20000 in
theorem ggX12_isUnattended_X12_field : GoodIn wsX12_isUnattended wsX12_field := goodIn_r _ [5, 6, 7, 8, 4, 9, 10, 11, 12, 13, 14, 15, 16, 17, 18, 19, 20, 21, 22, 23, 24, 25, 26, 27, 28, 29, 30, 31, 32, 33, 34, 35, 36, 37, 38, 39, 40, 41] rfl (by decide +kernel)
set_option maxRecDepth 20000 in
theorem gX12_isUnattended_X12_field : GoodIn wsX12_isUnattended (wsV RX12 307 RX12 yX12_field wsX12_field) := goodIn_app (goodIn_of _ (by decide +kernel)) ggX12_isUnattended_X12_field
theorem dX12_isUnattended_0 : decode cX12_isUnattended 0 = .ok (.aload_n 0, 1) := by decide +kernel
theorem dX12_isUnattended_1 : decode cX12_isUnattended 1 = .ok (.iload_n 1, 1) := by decide +kernel
theorem dX12_isUnattended_2 : decode cX12_isUnattended 2 = .ok (.bipush 11, 2) := by decide +kernel
theorem dX12_isUnattended_4 : decode cX12_isUnattended 4 = .ok (.invokevirtual 307, 3) := by decide +kernel
theorem dX12_isUnattended_7 : decode cX12_isUnattended 7 = .ok (.iconst 1, 1) := by decide +kernel
theorem dX12_isUnattended_8 : decode cX12_isUnattended 8 = .ok (.if_icmp .ne 7, 3) := by decide +kernel
theorem dX12_isUnattended_11 : decode cX12_isUnattended 11 = .ok (.iconst 1, 1) := by decide +kernel
theorem dX12_isUnattended_12 : decode cX12_isUnattended 12 = .ok (.goto 4, 3) := by decide +kernel
theorem dX12_isUnattended_15 : decode cX12_isUnattended 15 = .ok (.iconst 0, 1) := by decide +kernel
theorem dX12_isUnattended_16 : decode cX12_isUnattended 16 = .ok (.ireturn, 1) := by decide +kernel
set_option maxRecDepth 20000 in
theorem ggX12_predecessor_X12_isStep : GoodIn wsX12_predecessor wsX12_isStep := goodIn_r _ [5, 6, 7, 8, 4, 9, 19, 20, 21, 22, 23, 24, 25, 26, 27, 28, 29, 30, 31, 32, 33, 34, 35, 36, 37] rfl (by decide +kernel)
set_option maxRecDepth 20000 in
theorem gX12_predecessor_X12_isStep : GoodIn wsX12_predecessor (wsV RX12 304 RX12 yX12_isStep wsX12_isStep) := goodIn_app (goodIn_of _ (by decide +kernel)) ggX12_predecessor_X12_isStep
set_option maxRecDepth 20000 in
theorem ggX12_predecessor_X12_fails : GoodIn wsX12_predecessor wsX12_fails := goodIn_r _ [13, 14, 19, 20, 21, 22, 23, 24, 25, 26, 27, 28, 29, 30, 31, 32, 33, 34, 35, 36, 37] rfl (by decide +kernel)
set_option maxRecDepth 20000 in
theorem gX12_predecessor_X12_fails : GoodIn wsX12_predecessor (wsV RX12 167 RX12 yX12_fails wsX12_fails) := goodIn_app (goodIn_of _ (by decide +kernel)) ggX12_predecessor_X12_fails
set_option maxRecDepth 20000 in
theorem ggX12_predecessor_X12_of : GoodIn wsX12_predecessor wsX12_of := goodIn_r _ [18, 6, 19, 20, 21, 22, 23, 24, 25, 26, 27, 28, 29, 30, 31, 32, 33, 34, 35, 36, 37] rfl (by decide +kernel)
set_option maxRecDepth 20000 in
theorem gX12_predecessor_X12_of : GoodIn wsX12_predecessor (wsV RX12 95 RX12 yX12_of wsX12_of) := goodIn_app (goodIn_of _ (by decide +kernel)) ggX12_predecessor_X12_of
set_option maxRecDepth 20000 in
theorem ggX12_predecessor_X12_in : GoodIn wsX12_predecessor wsX12_in := goodIn_r _ [9] rfl (by decide +kernel)
set_option maxRecDepth 20000 in
theorem gX12_predecessor_X12_in : GoodIn wsX12_predecessor (va_wsS RX12 87 yX12_in wsX12_in) := goodIn_app (goodIn_of _ (by decide +kernel)) ggX12_predecessor_X12_in
theorem dX12_predecessor_0 : decode cX12_predecessor 0 = .ok (.aload_n 0, 1) := by decide +kernel
theorem dX12_predecessor_1 : decode cX12_predecessor 1 = .ok (.aload_n 0, 1) := by decide +kernel
theorem dX12_predecessor_2 : decode cX12_predecessor 2 = .ok (.iload_n 1, 1) := by decide +kernel
theorem dX12_predecessor_3 : decode cX12_predecessor 3 = .ok (.invokevirtual 304, 3) := by decide +kernel
theorem dX12_predecessor_6 : decode cX12_predecessor 6 = .ok (.ifCond .ne 7, 3) := by decide +kernel
theorem dX12_predecessor_9 : decode cX12_predecessor 9 = .ok (.iconst 1, 1) := by decide +kernel
theorem dX12_predecessor_10 : decode cX12_predecessor 10 = .ok (.goto 4, 3) := by decide +kernel
theorem dX12_predecessor_13 : decode cX12_predecessor 13 = .ok (.iconst 0, 1) := by decide +kernel
theorem dX12_predecessor_14 : decode cX12_predecessor 14 = .ok (.iconst 0, 1) := by decide +kernel
theorem dX12_predecessor_15 : decode cX12_predecessor 15 = .ok (.iconst 0, 1) := by decide +kernel
theorem dX12_predecessor_16 : decode cX12_predecessor 16 = .ok (.invokevirtual 167, 3) := by decide +kernel
theorem dX12_predecessor_19 : decode cX12_predecessor 19 = .ok (.ifCond .eq 5, 3) := by decide +kernel
theorem dX12_predecessor_22 : decode cX12_predecessor 22 = .ok (.iconst 0, 1) := by decide +kernel
theorem dX12_predecessor_23 : decode cX12_predecessor 23 = .ok (.ireturn, 1) := by decide +kernel
theorem dX12_predecessor_24 : decode cX12_predecessor 24 = .ok (.iload_n 2, 1) := by decide +kernel
theorem dX12_predecessor_25 : decode cX12_predecessor 25 = .ok (.iconst 0, 1) := by decide +kernel
theorem dX12_predecessor_26 : decode cX12_predecessor 26 = .ok (.aload_n 0, 1) := by decide +kernel
theorem dX12_predecessor_27 : decode cX12_predecessor 27 = .ok (.iload_n 1, 1) := by decide +kernel
theorem dX12_predecessor_28 : decode cX12_predecessor 28 = .ok (.bipush 12, 2) := by decide +kernel
theorem dX12_predecessor_30 : decode cX12_predecessor 30 = .ok (.invokevirtual 95, 3) := by decide +kernel
theorem dX12_predecessor_33 : decode cX12_predecessor 33 = .ok (.iconst 1, 1) := by decide +kernel
theorem dX12_predecessor_34 : decode cX12_predecessor 34 = .ok (.isub, 1) := by decide +kernel
theorem dX12_predecessor_35 : decode cX12_predecessor 35 = .ok (.invokestatic 87, 3) := by decide +kernel
theorem dX12_predecessor_38 : decode cX12_predecessor 38 = .ok (.ifCond .eq 15, 3) := by decide +kernel
theorem dX12_predecessor_41 : decode cX12_predecessor 41 = .ok (.aload_n 0, 1) := by decide +kernel
theorem dX12_predecessor_42 : decode cX12_predecessor 42 = .ok (.iload_n 1, 1) := by decide +kernel
theorem dX12_predecessor_43 : decode cX12_predecessor 43 = .ok (.bipush 13, 2) := by decide +kernel
theorem dX12_predecessor_45 : decode cX12_predecessor 45 = .ok (.iload_n 2, 1) := by decide +kernel
theorem dX12_predecessor_46 : decode cX12_predecessor 46 = .ok (.iadd, 1) := by decide +kernel
theorem dX12_predecessor_47 : decode cX12_predecessor 47 = .ok (.invokevirtual 95, 3) := by decide +kernel
theorem dX12_predecessor_50 : decode cX12_predecessor 50 = .ok (.goto 4, 3) := by decide +kernel
theorem dX12_predecessor_53 : decode cX12_predecessor 53 = .ok (.iconst (-1), 1) := by decide +kernel
theorem dX12_predecessor_54 : decode cX12_predecessor 54 = .ok (.ireturn, 1) := by decide +kernel
set_option maxRecDepth 20000 in
theorem ggX12_successorCount_X12_isStep : GoodIn wsX12_successorCount wsX12_isStep := goodIn_r _ [5, 6, 7, 8, 4, 9, 27, 28, 29, 30, 31, 32, 33, 34, 35, 36, 37, 38, 39, 40, 41, 42, 43, 44, 45] rfl (by decide +kernel)
set_option maxRecDepth 20000 in
theorem gX12_successorCount_X12_isStep : GoodIn wsX12_successorCount (wsV RX12 304 RX12 yX12_isStep wsX12_isStep) := goodIn_app (goodIn_of _ (by decide +kernel)) ggX12_successorCount_X12_isStep
set_option maxRecDepth 20000 in
theorem ggX12_successorCount_X12_fails : GoodIn wsX12_successorCount wsX12_fails := goodIn_r _ [13, 14, 27, 28, 29, 30, 31, 32, 33, 34, 35, 36, 37, 38, 39, 40, 41, 42, 43, 44, 45] rfl (by decide +kernel)
set_option maxRecDepth 20000 in
theorem gX12_successorCount_X12_fails : GoodIn wsX12_successorCount (wsV RX12 167 RX12 yX12_fails wsX12_fails) := goodIn_app (goodIn_of _ (by decide +kernel)) ggX12_successorCount_X12_fails
set_option maxRecDepth 20000 in
theorem ggX12_successorCount_X12_successors : GoodIn wsX12_successorCount wsX12_successors := goodIn_r _ [18, 6, 19, 20, 21, 4, 22, 23, 24, 25, 26, 27, 28, 29, 30, 31, 32, 33, 34, 35, 36, 37, 38, 39, 40, 41, 42, 43, 44, 45] rfl (by decide +kernel)
set_option maxRecDepth 20000 in
theorem gX12_successorCount_X12_successors : GoodIn wsX12_successorCount (wsV RX12 310 RX12 yX12_successors wsX12_successors) := goodIn_app (goodIn_of _ (by decide +kernel)) ggX12_successorCount_X12_successors
theorem dX12_successorCount_0 : decode cX12_successorCount 0 = .ok (.aload_n 0, 1) := by decide +kernel
theorem dX12_successorCount_1 : decode cX12_successorCount 1 = .ok (.aload_n 0, 1) := by decide +kernel
theorem dX12_successorCount_2 : decode cX12_successorCount 2 = .ok (.iload_n 1, 1) := by decide +kernel
theorem dX12_successorCount_3 : decode cX12_successorCount 3 = .ok (.invokevirtual 304, 3) := by decide +kernel
theorem dX12_successorCount_6 : decode cX12_successorCount 6 = .ok (.ifCond .ne 7, 3) := by decide +kernel
theorem dX12_successorCount_9 : decode cX12_successorCount 9 = .ok (.iconst 1, 1) := by decide +kernel
theorem dX12_successorCount_10 : decode cX12_successorCount 10 = .ok (.goto 4, 3) := by decide +kernel
theorem dX12_successorCount_13 : decode cX12_successorCount 13 = .ok (.iconst 0, 1) := by decide +kernel
theorem dX12_successorCount_14 : decode cX12_successorCount 14 = .ok (.iconst 0, 1) := by decide +kernel
theorem dX12_successorCount_15 : decode cX12_successorCount 15 = .ok (.iconst 0, 1) := by decide +kernel
theorem dX12_successorCount_16 : decode cX12_successorCount 16 = .ok (.invokevirtual 167, 3) := by decide +kernel
theorem dX12_successorCount_19 : decode cX12_successorCount 19 = .ok (.ifCond .eq 5, 3) := by decide +kernel
theorem dX12_successorCount_22 : decode cX12_successorCount 22 = .ok (.iconst 0, 1) := by decide +kernel
theorem dX12_successorCount_23 : decode cX12_successorCount 23 = .ok (.ireturn, 1) := by decide +kernel
theorem dX12_successorCount_24 : decode cX12_successorCount 24 = .ok (.aload_n 0, 1) := by decide +kernel
theorem dX12_successorCount_25 : decode cX12_successorCount 25 = .ok (.iload_n 1, 1) := by decide +kernel
theorem dX12_successorCount_26 : decode cX12_successorCount 26 = .ok (.invokevirtual 310, 3) := by decide +kernel
theorem dX12_successorCount_29 : decode cX12_successorCount 29 = .ok (.ireturn, 1) := by decide +kernel
set_option maxRecDepth 20000 in
theorem ggX12_dependsOn_X12_isStep : GoodIn wsX12_dependsOn wsX12_isStep := goodIn_r _ [7, 1, 8, 9, 6, 10, 20, 21, 22, 23, 24, 25, 26, 27, 28, 29, 30, 31, 32, 33, 34, 35, 36, 37, 38] rfl (by decide +kernel)
set_option maxRecDepth 20000 in
theorem gX12_dependsOn_X12_isStep : GoodIn wsX12_dependsOn (wsV RX12 304 RX12 yX12_isStep wsX12_isStep) := goodIn_app (goodIn_of _ (by decide +kernel)) ggX12_dependsOn_X12_isStep
set_option maxRecDepth 20000 in
theorem ggX12_dependsOn_X12_fails : GoodIn wsX12_dependsOn wsX12_fails := goodIn_r _ [14, 15, 20, 21, 22, 23, 24, 25, 26, 27, 28, 29, 30, 31, 32, 33, 34, 35, 36, 37, 38] rfl (by decide +kernel)
set_option maxRecDepth 20000 in
theorem gX12_dependsOn_X12_fails : GoodIn wsX12_dependsOn (wsV RX12 167 RX12 yX12_fails wsX12_fails) := goodIn_app (goodIn_of _ (by decide +kernel)) ggX12_dependsOn_X12_fails
set_option maxRecDepth 20000 in
theorem ggX12_dependsOn_X12_of : GoodIn wsX12_dependsOn wsX12_of := goodIn_r _ [19, 1, 20, 21, 22, 23, 24, 25, 26, 27, 28, 29, 30, 31, 32, 33, 34, 35, 36, 37, 38] rfl (by decide +kernel)
set_option maxRecDepth 20000 in
theorem gX12_dependsOn_X12_of : GoodIn wsX12_dependsOn (wsV RX12 95 RX12 yX12_of wsX12_of) := goodIn_app (goodIn_of _ (by decide +kernel)) ggX12_dependsOn_X12_of
theorem dX12_dependsOn_0 : decode cX12_dependsOn 0 = .ok (.aload_n 0, 1) := by decide +kernel
theorem dX12_dependsOn_1 : decode cX12_dependsOn 1 = .ok (.aload_n 0, 1) := by decide +kernel
theorem dX12_dependsOn_2 : decode cX12_dependsOn 2 = .ok (.iload_n 1, 1) := by decide +kernel
theorem dX12_dependsOn_3 : decode cX12_dependsOn 3 = .ok (.invokevirtual 304, 3) := by decide +kernel
theorem dX12_dependsOn_6 : decode cX12_dependsOn 6 = .ok (.ifCond .eq 11, 3) := by decide +kernel
theorem dX12_dependsOn_9 : decode cX12_dependsOn 9 = .ok (.aload_n 0, 1) := by decide +kernel
theorem dX12_dependsOn_10 : decode cX12_dependsOn 10 = .ok (.iload_n 2, 1) := by decide +kernel
theorem dX12_dependsOn_11 : decode cX12_dependsOn 11 = .ok (.invokevirtual 304, 3) := by decide +kernel
theorem dX12_dependsOn_14 : decode cX12_dependsOn 14 = .ok (.ifCond .ne 7, 3) := by decide +kernel
theorem dX12_dependsOn_17 : decode cX12_dependsOn 17 = .ok (.iconst 1, 1) := by decide +kernel
theorem dX12_dependsOn_18 : decode cX12_dependsOn 18 = .ok (.goto 4, 3) := by decide +kernel
theorem dX12_dependsOn_21 : decode cX12_dependsOn 21 = .ok (.iconst 0, 1) := by decide +kernel
theorem dX12_dependsOn_22 : decode cX12_dependsOn 22 = .ok (.iconst 0, 1) := by decide +kernel
theorem dX12_dependsOn_23 : decode cX12_dependsOn 23 = .ok (.iconst 0, 1) := by decide +kernel
theorem dX12_dependsOn_24 : decode cX12_dependsOn 24 = .ok (.invokevirtual 167, 3) := by decide +kernel
theorem dX12_dependsOn_27 : decode cX12_dependsOn 27 = .ok (.ifCond .eq 5, 3) := by decide +kernel
theorem dX12_dependsOn_30 : decode cX12_dependsOn 30 = .ok (.iconst 0, 1) := by decide +kernel
theorem dX12_dependsOn_31 : decode cX12_dependsOn 31 = .ok (.ireturn, 1) := by decide +kernel
theorem dX12_dependsOn_32 : decode cX12_dependsOn 32 = .ok (.iconst 0, 1) := by decide +kernel
theorem dX12_dependsOn_33 : decode cX12_dependsOn 33 = .ok (.istore_n 3, 1) := by decide +kernel
theorem dX12_dependsOn_34 : decode cX12_dependsOn 34 = .ok (.iload_n 3, 1) := by decide +kernel
