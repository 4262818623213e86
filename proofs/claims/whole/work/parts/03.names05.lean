set_option maxRecDepth 20000 in
theorem ggX9_addTwoDigits_X9_addByte : GoodIn wsX9_addTwoDigits wsX9_addByte := goodIn_r _ [5, 6, 7, 8, 9] rfl (by decide +kernel)
set_option maxRecDepth 20000 in
theorem gX9_addTwoDigits_X9_addByte : GoodIn wsX9_addTwoDigits (wsV RX9 17 RX9 yX9_addByte wsX9_addByte) := goodIn_app (goodIn_of _ (by decide +kernel)) ggX9_addTwoDigits_X9_addByte
theorem dX9_addTwoDigits_0 : decode cX9_addTwoDigits 0 = .ok (.iload_n 1, 1) := by decide +kernel
theorem dX9_addTwoDigits_1 : decode cX9_addTwoDigits 1 = .ok (.bipush 10, 2) := by decide +kernel
theorem dX9_addTwoDigits_3 : decode cX9_addTwoDigits 3 = .ok (.if_icmp .lt 14, 3) := by decide +kernel
theorem dX9_addTwoDigits_6 : decode cX9_addTwoDigits 6 = .ok (.aload_n 0, 1) := by decide +kernel
theorem dX9_addTwoDigits_7 : decode cX9_addTwoDigits 7 = .ok (.bipush 48, 2) := by decide +kernel
theorem dX9_addTwoDigits_9 : decode cX9_addTwoDigits 9 = .ok (.iload_n 1, 1) := by decide +kernel
theorem dX9_addTwoDigits_10 : decode cX9_addTwoDigits 10 = .ok (.bipush 10, 2) := by decide +kernel
theorem dX9_addTwoDigits_12 : decode cX9_addTwoDigits 12 = .ok (.idiv, 1) := by decide +kernel
theorem dX9_addTwoDigits_13 : decode cX9_addTwoDigits 13 = .ok (.iadd, 1) := by decide +kernel
theorem dX9_addTwoDigits_14 : decode cX9_addTwoDigits 14 = .ok (.invokevirtual 17, 3) := by decide +kernel
theorem dX9_addTwoDigits_17 : decode cX9_addTwoDigits 17 = .ok (.aload_n 0, 1) := by decide +kernel
theorem dX9_addTwoDigits_18 : decode cX9_addTwoDigits 18 = .ok (.bipush 48, 2) := by decide +kernel
theorem dX9_addTwoDigits_20 : decode cX9_addTwoDigits 20 = .ok (.iload_n 1, 1) := by decide +kernel
theorem dX9_addTwoDigits_21 : decode cX9_addTwoDigits 21 = .ok (.bipush 10, 2) := by decide +kernel
theorem dX9_addTwoDigits_23 : decode cX9_addTwoDigits 23 = .ok (.irem, 1) := by decide +kernel
theorem dX9_addTwoDigits_24 : decode cX9_addTwoDigits 24 = .ok (.iadd, 1) := by decide +kernel
theorem dX9_addTwoDigits_25 : decode cX9_addTwoDigits 25 = .ok (.invokevirtual 17, 3) := by decide +kernel
theorem dX9_addTwoDigits_28 : decode cX9_addTwoDigits 28 = .ok (.return_, 1) := by decide +kernel
set_option maxRecDepth 20000 in
theorem ggX9_addString_J0_length_8abf5 : GoodIn wsX9_addString wsJ0_length_8abf5 := goodIn_r _ [5, 6, 7, 8, 9, 4, 10, 11, 12] rfl (by decide +kernel)
set_option maxRecDepth 20000 in
theorem gX9_addString_J0_length_8abf5 : GoodIn wsX9_addString (wsV RX9 21 RJ0 yJ0_length_8abf5 wsJ0_length_8abf5) := goodIn_app (goodIn_of _ (by decide +kernel)) ggX9_addString_J0_length_8abf5
set_option maxRecDepth 20000 in
theorem ggX9_addString_J0_charAt_5068e : GoodIn wsX9_addString wsJ0_charAt_5068e := goodIn_r _ [16, 6, 17, 18, 19, 4, 20, 11, 12, 21, 22, 23, 24, 25, 26, 27, 28, 29, 30, 31, 32, 33, 34, 35, 36, 37, 38, 39, 40, 41, 42, 43, 44, 45, 46, 47, 48, 49] rfl (by decide +kernel)
set_option maxRecDepth 20000 in
theorem gX9_addString_J0_charAt_5068e : GoodIn wsX9_addString (wsV RX9 26 RJ0 yJ0_charAt_5068e wsJ0_charAt_5068e) := goodIn_app (goodIn_of _ (by decide +kernel)) ggX9_addString_J0_charAt_5068e
set_option maxRecDepth 20000 in
theorem ggX9_addString_X9_addByte : GoodIn wsX9_addString wsX9_addByte := goodIn_r _ [54, 55, 56, 57, 58] rfl (by decide +kernel)
set_option maxRecDepth 20000 in
theorem gX9_addString_X9_addByte : GoodIn wsX9_addString (wsV RX9 17 RX9 yX9_addByte wsX9_addByte) := goodIn_app (goodIn_of _ (by decide +kernel)) ggX9_addString_X9_addByte
theorem dX9_addString_0 : decode cX9_addString 0 = .ok (.iconst 0, 1) := by decide +kernel
theorem dX9_addString_1 : decode cX9_addString 1 = .ok (.istore_n 2, 1) := by decide +kernel
theorem dX9_addString_2 : decode cX9_addString 2 = .ok (.iload_n 2, 1) := by decide +kernel
theorem dX9_addString_3 : decode cX9_addString 3 = .ok (.aload_n 1, 1) := by decide +kernel
theorem dX9_addString_4 : decode cX9_addString 4 = .ok (.invokevirtual 21, 3) := by decide +kernel
theorem dX9_addString_7 : decode cX9_addString 7 = .ok (.if_icmp .ge 18, 3) := by decide +kernel
theorem dX9_addString_10 : decode cX9_addString 10 = .ok (.aload_n 0, 1) := by decide +kernel
theorem dX9_addString_11 : decode cX9_addString 11 = .ok (.aload_n 1, 1) := by decide +kernel
theorem dX9_addString_12 : decode cX9_addString 12 = .ok (.iload_n 2, 1) := by decide +kernel
theorem dX9_addString_13 : decode cX9_addString 13 = .ok (.invokevirtual 26, 3) := by decide +kernel
theorem dX9_addString_16 : decode cX9_addString 16 = .ok (.invokevirtual 17, 3) := by decide +kernel
theorem dX9_addString_19 : decode cX9_addString 19 = .ok (.iinc 2 1, 3) := by decide +kernel
theorem dX9_addString_22 : decode cX9_addString 22 = .ok (.goto (-20), 3) := by decide +kernel
theorem dX9_addString_25 : decode cX9_addString 25 = .ok (.return_, 1) := by decide +kernel
theorem dX10_init_0 : decode cX10_init 0 = .ok (.aload_n 0, 1) := by decide +kernel
theorem dX10_init_1 : decode cX10_init 1 = .ok (.invokespecial 3, 3) := by decide +kernel
theorem dX10_init_4 : decode cX10_init 4 = .ok (.aload_n 0, 1) := by decide +kernel
theorem dX10_init_5 : decode cX10_init 5 = .ok (.aload_n 1, 1) := by decide +kernel
theorem dX10_init_6 : decode cX10_init 6 = .ok (.putfield 9, 3) := by decide +kernel
theorem dX10_init_9 : decode cX10_init 9 = .ok (.aload_n 0, 1) := by decide +kernel
theorem dX10_init_10 : decode cX10_init 10 = .ok (.iconst (-1), 1) := by decide +kernel
theorem dX10_init_11 : decode cX10_init 11 = .ok (.putfield 15, 3) := by decide +kernel
theorem dX10_init_14 : decode cX10_init 14 = .ok (.return_, 1) := by decide +kernel
set_option maxRecDepth 20000 in
theorem ggX10_begin_X10_advance : GoodIn wsX10_begin wsX10_advance := goodIn_r _ [8, 3, 9, 10, 11, 12, 13, 7, 14, 15, 16, 17, 18, 19, 20, 21, 22, 23, 24, 25, 26, 27, 28, 29] rfl (by decide +kernel)
set_option maxRecDepth 20000 in
theorem gX10_begin_X10_advance : GoodIn wsX10_begin (wsV RX10 25 RX10 yX10_advance wsX10_advance) := goodIn_app (goodIn_of _ (by decide +kernel)) ggX10_begin_X10_advance
theorem dX10_begin_0 : decode cX10_begin 0 = .ok (.aload_n 0, 1) := by decide +kernel
theorem dX10_begin_1 : decode cX10_begin 1 = .ok (.iconst 0, 1) := by decide +kernel
theorem dX10_begin_2 : decode cX10_begin 2 = .ok (.putfield 19, 3) := by decide +kernel
theorem dX10_begin_5 : decode cX10_begin 5 = .ok (.aload_n 0, 1) := by decide +kernel
theorem dX10_begin_6 : decode cX10_begin 6 = .ok (.iconst (-1), 1) := by decide +kernel
theorem dX10_begin_7 : decode cX10_begin 7 = .ok (.putfield 15, 3) := by decide +kernel
theorem dX10_begin_10 : decode cX10_begin 10 = .ok (.aload_n 0, 1) := by decide +kernel
theorem dX10_begin_11 : decode cX10_begin 11 = .ok (.iconst 0, 1) := by decide +kernel
theorem dX10_begin_12 : decode cX10_begin 12 = .ok (.putfield 22, 3) := by decide +kernel
theorem dX10_begin_15 : decode cX10_begin 15 = .ok (.aload_n 0, 1) := by decide +kernel
theorem dX10_begin_16 : decode cX10_begin 16 = .ok (.invokevirtual 25, 3) := by decide +kernel
theorem dX10_begin_19 : decode cX10_begin 19 = .ok (.return_, 1) := by decide +kernel
set_option maxRecDepth 20000 in
theorem ggX10_advance_X10_isGap : GoodIn wsX10_advance wsX10_isGap := goodIn_r _ [8] rfl (by decide +kernel)
set_option maxRecDepth 20000 in
theorem gX10_advance_X10_isGap : GoodIn wsX10_advance (va_wsS RX10 40 yX10_isGap wsX10_isGap) := goodIn_app (goodIn_of _ (by decide +kernel)) ggX10_advance_X10_isGap
set_option maxRecDepth 20000 in
theorem ggX10_advance_X11_isWithin : GoodIn wsX10_advance wsX11_isWithin := goodIn_r _ [11] rfl (by decide +kernel)
set_option maxRecDepth 20000 in
theorem gX10_advance_X11_isWithin_n47 : GoodIn wsX10_advance (wsX11_isWithin) := ggX10_advance_X11_isWithin
set_option maxRecDepth 20000 in
theorem ggX10_advance_X10_passRun : GoodIn wsX10_advance wsX10_passRun := goodIn_r _ [15, 1, 3, 16, 17, 18, 19, 20, 21, 22, 23] rfl (by decide +kernel)
set_option maxRecDepth 20000 in
theorem gX10_advance_X10_passRun : GoodIn wsX10_advance (wsV RX10 51 RX10 yX10_passRun wsX10_passRun) := goodIn_app (goodIn_of _ (by decide +kernel)) ggX10_advance_X10_passRun
theorem dX10_advance_0 : decode cX10_advance 0 = .ok (.aload_n 0, 1) := by decide +kernel
theorem dX10_advance_1 : decode cX10_advance 1 = .ok (.aload_n 0, 1) := by decide +kernel
theorem dX10_advance_2 : decode cX10_advance 2 = .ok (.getfield 22, 3) := by decide +kernel
theorem dX10_advance_5 : decode cX10_advance 5 = .ok (.putfield 28, 3) := by decide +kernel
theorem dX10_advance_8 : decode cX10_advance 8 = .ok (.aload_n 0, 1) := by decide +kernel
theorem dX10_advance_9 : decode cX10_advance 9 = .ok (.getfield 28, 3) := by decide +kernel
theorem dX10_advance_12 : decode cX10_advance 12 = .ok (.aload_n 0, 1) := by decide +kernel
theorem dX10_advance_13 : decode cX10_advance 13 = .ok (.getfield 9, 3) := by decide +kernel
theorem dX10_advance_16 : decode cX10_advance 16 = .ok (.getfield 31, 3) := by decide +kernel
theorem dX10_advance_19 : decode cX10_advance 19 = .ok (.if_icmp .ge 34, 3) := by decide +kernel
theorem dX10_advance_22 : decode cX10_advance 22 = .ok (.aload_n 0, 1) := by decide +kernel
theorem dX10_advance_23 : decode cX10_advance 23 = .ok (.getfield 9, 3) := by decide +kernel
theorem dX10_advance_26 : decode cX10_advance 26 = .ok (.getfield 36, 3) := by decide +kernel
theorem dX10_advance_29 : decode cX10_advance 29 = .ok (.aload_n 0, 1) := by decide +kernel
theorem dX10_advance_30 : decode cX10_advance 30 = .ok (.getfield 28, 3) := by decide +kernel
theorem dX10_advance_33 : decode cX10_advance 33 = .ok (.baload, 1) := by decide +kernel
theorem dX10_advance_34 : decode cX10_advance 34 = .ok (.invokestatic 40, 3) := by decide +kernel
theorem dX10_advance_37 : decode cX10_advance 37 = .ok (.ifCond .eq 16, 3) := by decide +kernel
theorem dX10_advance_40 : decode cX10_advance 40 = .ok (.aload_n 0, 1) := by decide +kernel
theorem dX10_advance_41 : decode cX10_advance 41 = .ok (.dup, 1) := by decide +kernel
theorem dX10_advance_42 : decode cX10_advance 42 = .ok (.getfield 28, 3) := by decide +kernel
theorem dX10_advance_45 : decode cX10_advance 45 = .ok (.iconst 1, 1) := by decide +kernel
theorem dX10_advance_46 : decode cX10_advance 46 = .ok (.iadd, 1) := by decide +kernel
theorem dX10_advance_47 : decode cX10_advance 47 = .ok (.putfield 28, 3) := by decide +kernel
theorem dX10_advance_50 : decode cX10_advance 50 = .ok (.goto (-42), 3) := by decide +kernel
theorem dX10_advance_53 : decode cX10_advance 53 = .ok (.aload_n 0, 1) := by decide +kernel
theorem dX10_advance_54 : decode cX10_advance 54 = .ok (.aload_n 0, 1) := by decide +kernel
theorem dX10_advance_55 : decode cX10_advance 55 = .ok (.getfield 28, 3) := by decide +kernel
theorem dX10_advance_58 : decode cX10_advance 58 = .ok (.putfield 22, 3) := by decide +kernel
theorem dX10_advance_61 : decode cX10_advance 61 = .ok (.aload_n 0, 1) := by decide +kernel
theorem dX10_advance_62 : decode cX10_advance 62 = .ok (.getfield 28, 3) := by decide +kernel
theorem dX10_advance_65 : decode cX10_advance 65 = .ok (.aload_n 0, 1) := by decide +kernel
theorem dX10_advance_66 : decode cX10_advance 66 = .ok (.getfield 9, 3) := by decide +kernel
theorem dX10_advance_69 : decode cX10_advance 69 = .ok (.getfield 31, 3) := by decide +kernel
theorem dX10_advance_72 : decode cX10_advance 72 = .ok (.if_icmp .lt 11, 3) := by decide +kernel
theorem dX10_advance_75 : decode cX10_advance 75 = .ok (.aload_n 0, 1) := by decide +kernel
theorem dX10_advance_76 : decode cX10_advance 76 = .ok (.iconst 0, 1) := by decide +kernel
theorem dX10_advance_77 : decode cX10_advance 77 = .ok (.putfield 44, 3) := by decide +kernel
theorem dX10_advance_80 : decode cX10_advance 80 = .ok (.goto 150, 3) := by decide +kernel
theorem dX10_advance_83 : decode cX10_advance 83 = .ok (.aload_n 0, 1) := by decide +kernel
theorem dX10_advance_84 : decode cX10_advance 84 = .ok (.getfield 9, 3) := by decide +kernel
theorem dX10_advance_87 : decode cX10_advance 87 = .ok (.getfield 36, 3) := by decide +kernel
theorem dX10_advance_90 : decode cX10_advance 90 = .ok (.aload_n 0, 1) := by decide +kernel
theorem dX10_advance_91 : decode cX10_advance 91 = .ok (.getfield 28, 3) := by decide +kernel
theorem dX10_advance_94 : decode cX10_advance 94 = .ok (.baload, 1) := by decide +kernel
theorem dX10_advance_95 : decode cX10_advance 95 = .ok (.bipush 97, 2) := by decide +kernel
theorem dX10_advance_97 : decode cX10_advance 97 = .ok (.bipush 122, 2) := by decide +kernel
theorem dX10_advance_99 : decode cX10_advance 99 = .ok (.invokestatic 47, 3) := by decide +kernel
theorem dX10_advance_102 : decode cX10_advance 102 = .ok (.ifCond .eq 37, 3) := by decide +kernel
theorem dX10_advance_105 : decode cX10_advance 105 = .ok (.aload_n 0, 1) := by decide +kernel
theorem dX10_advance_106 : decode cX10_advance 106 = .ok (.bipush 97, 2) := by decide +kernel
theorem dX10_advance_108 : decode cX10_advance 108 = .ok (.bipush 122, 2) := by decide +kernel
theorem dX10_advance_110 : decode cX10_advance 110 = .ok (.invokevirtual 51, 3) := by decide +kernel
theorem dX10_advance_113 : decode cX10_advance 113 = .ok (.aload_n 0, 1) := by decide +kernel
theorem dX10_advance_114 : decode cX10_advance 114 = .ok (.aload_n 0, 1) := by decide +kernel
theorem dX10_advance_115 : decode cX10_advance 115 = .ok (.getfield 22, 3) := by decide +kernel
theorem dX10_advance_118 : decode cX10_advance 118 = .ok (.aload_n 0, 1) := by decide +kernel
theorem dX10_advance_119 : decode cX10_advance 119 = .ok (.getfield 28, 3) := by decide +kernel
theorem dX10_advance_122 : decode cX10_advance 122 = .ok (.isub, 1) := by decide +kernel
theorem dX10_advance_123 : decode cX10_advance 123 = .ok (.bipush 8, 2) := by decide +kernel
theorem dX10_advance_125 : decode cX10_advance 125 = .ok (.if_icmp .gt 7, 3) := by decide +kernel
theorem dX10_advance_128 : decode cX10_advance 128 = .ok (.iconst 1, 1) := by decide +kernel
theorem dX10_advance_129 : decode cX10_advance 129 = .ok (.goto 4, 3) := by decide +kernel
theorem dX10_advance_132 : decode cX10_advance 132 = .ok (.iconst 4, 1) := by decide +kernel
theorem dX10_advance_133 : decode cX10_advance 133 = .ok (.putfield 44, 3) := by decide +kernel
theorem dX10_advance_136 : decode cX10_advance 136 = .ok (.goto 94, 3) := by decide +kernel
theorem dX10_advance_139 : decode cX10_advance 139 = .ok (.aload_n 0, 1) := by decide +kernel
theorem dX10_advance_140 : decode cX10_advance 140 = .ok (.getfield 9, 3) := by decide +kernel
theorem dX10_advance_143 : decode cX10_advance 143 = .ok (.getfield 36, 3) := by decide +kernel
theorem dX10_advance_146 : decode cX10_advance 146 = .ok (.aload_n 0, 1) := by decide +kernel
theorem dX10_advance_147 : decode cX10_advance 147 = .ok (.getfield 28, 3) := by decide +kernel
theorem dX10_advance_150 : decode cX10_advance 150 = .ok (.baload, 1) := by decide +kernel
theorem dX10_advance_151 : decode cX10_advance 151 = .ok (.bipush 48, 2) := by decide +kernel
theorem dX10_advance_153 : decode cX10_advance 153 = .ok (.bipush 57, 2) := by decide +kernel
theorem dX10_advance_155 : decode cX10_advance 155 = .ok (.invokestatic 47, 3) := by decide +kernel
theorem dX10_advance_158 : decode cX10_advance 158 = .ok (.ifCond .eq 36, 3) := by decide +kernel
theorem dX10_advance_161 : decode cX10_advance 161 = .ok (.aload_n 0, 1) := by decide +kernel
theorem dX10_advance_162 : decode cX10_advance 162 = .ok (.bipush 48, 2) := by decide +kernel
theorem dX10_advance_164 : decode cX10_advance 164 = .ok (.bipush 57, 2) := by decide +kernel
theorem dX10_advance_166 : decode cX10_advance 166 = .ok (.invokevirtual 51, 3) := by decide +kernel
theorem dX10_advance_169 : decode cX10_advance 169 = .ok (.aload_n 0, 1) := by decide +kernel
theorem dX10_advance_170 : decode cX10_advance 170 = .ok (.aload_n 0, 1) := by decide +kernel
theorem dX10_advance_171 : decode cX10_advance 171 = .ok (.getfield 22, 3) := by decide +kernel
theorem dX10_advance_174 : decode cX10_advance 174 = .ok (.aload_n 0, 1) := by decide +kernel
theorem dX10_advance_175 : decode cX10_advance 175 = .ok (.getfield 28, 3) := by decide +kernel
theorem dX10_advance_178 : decode cX10_advance 178 = .ok (.isub, 1) := by decide +kernel
theorem dX10_advance_179 : decode cX10_advance 179 = .ok (.iconst 3, 1) := by decide +kernel
theorem dX10_advance_180 : decode cX10_advance 180 = .ok (.if_icmp .gt 7, 3) := by decide +kernel
theorem dX10_advance_183 : decode cX10_advance 183 = .ok (.iconst 2, 1) := by decide +kernel
theorem dX10_advance_184 : decode cX10_advance 184 = .ok (.goto 4, 3) := by decide +kernel
theorem dX10_advance_187 : decode cX10_advance 187 = .ok (.iconst 4, 1) := by decide +kernel
theorem dX10_advance_188 : decode cX10_advance 188 = .ok (.putfield 44, 3) := by decide +kernel
theorem dX10_advance_191 : decode cX10_advance 191 = .ok (.goto 39, 3) := by decide +kernel
theorem dX10_advance_194 : decode cX10_advance 194 = .ok (.aload_n 0, 1) := by decide +kernel
theorem dX10_advance_195 : decode cX10_advance 195 = .ok (.aload_n 0, 1) := by decide +kernel
theorem dX10_advance_196 : decode cX10_advance 196 = .ok (.getfield 9, 3) := by decide +kernel
theorem dX10_advance_199 : decode cX10_advance 199 = .ok (.getfield 36, 3) := by decide +kernel
theorem dX10_advance_202 : decode cX10_advance 202 = .ok (.aload_n 0, 1) := by decide +kernel
theorem dX10_advance_203 : decode cX10_advance 203 = .ok (.getfield 28, 3) := by decide +kernel
theorem dX10_advance_206 : decode cX10_advance 206 = .ok (.baload, 1) := by decide +kernel
theorem dX10_advance_207 : decode cX10_advance 207 = .ok (.bipush 59, 2) := by decide +kernel
theorem dX10_advance_209 : decode cX10_advance 209 = .ok (.if_icmp .ne 7, 3) := by decide +kernel
theorem dX10_advance_212 : decode cX10_advance 212 = .ok (.iconst 3, 1) := by decide +kernel
theorem dX10_advance_213 : decode cX10_advance 213 = .ok (.goto 4, 3) := by decide +kernel
theorem dX10_advance_216 : decode cX10_advance 216 = .ok (.iconst 4, 1) := by decide +kernel
theorem dX10_advance_217 : decode cX10_advance 217 = .ok (.putfield 44, 3) := by decide +kernel
theorem dX10_advance_220 : decode cX10_advance 220 = .ok (.aload_n 0, 1) := by decide +kernel
theorem dX10_advance_221 : decode cX10_advance 221 = .ok (.aload_n 0, 1) := by decide +kernel
theorem dX10_advance_222 : decode cX10_advance 222 = .ok (.getfield 28, 3) := by decide +kernel
theorem dX10_advance_225 : decode cX10_advance 225 = .ok (.iconst 1, 1) := by decide +kernel
theorem dX10_advance_226 : decode cX10_advance 226 = .ok (.iadd, 1) := by decide +kernel
theorem dX10_advance_227 : decode cX10_advance 227 = .ok (.putfield 22, 3) := by decide +kernel
theorem dX10_advance_230 : decode cX10_advance 230 = .ok (.return_, 1) := by decide +kernel
theorem dX10_passRun_0 : decode cX10_passRun 0 = .ok (.aload_n 0, 1) := by decide +kernel
theorem dX10_passRun_1 : decode cX10_passRun 1 = .ok (.getfield 22, 3) := by decide +kernel
theorem dX10_passRun_4 : decode cX10_passRun 4 = .ok (.aload_n 0, 1) := by decide +kernel
theorem dX10_passRun_5 : decode cX10_passRun 5 = .ok (.getfield 9, 3) := by decide +kernel
theorem dX10_passRun_8 : decode cX10_passRun 8 = .ok (.getfield 31, 3) := by decide +kernel
theorem dX10_passRun_11 : decode cX10_passRun 11 = .ok (.if_icmp .ge 48, 3) := by decide +kernel
theorem dX10_passRun_14 : decode cX10_passRun 14 = .ok (.iload_n 1, 1) := by decide +kernel
theorem dX10_passRun_15 : decode cX10_passRun 15 = .ok (.aload_n 0, 1) := by decide +kernel
theorem dX10_passRun_16 : decode cX10_passRun 16 = .ok (.getfield 9, 3) := by decide +kernel
theorem dX10_passRun_19 : decode cX10_passRun 19 = .ok (.getfield 36, 3) := by decide +kernel
theorem dX10_passRun_22 : decode cX10_passRun 22 = .ok (.aload_n 0, 1) := by decide +kernel
theorem dX10_passRun_23 : decode cX10_passRun 23 = .ok (.getfield 22, 3) := by decide +kernel
theorem dX10_passRun_26 : decode cX10_passRun 26 = .ok (.baload, 1) := by decide +kernel
theorem dX10_passRun_27 : decode cX10_passRun 27 = .ok (.if_icmp .gt 32, 3) := by decide +kernel
theorem dX10_passRun_30 : decode cX10_passRun 30 = .ok (.aload_n 0, 1) := by decide +kernel
theorem dX10_passRun_31 : decode cX10_passRun 31 = .ok (.getfield 9, 3) := by decide +kernel
theorem dX10_passRun_34 : decode cX10_passRun 34 = .ok (.getfield 36, 3) := by decide +kernel
theorem dX10_passRun_37 : decode cX10_passRun 37 = .ok (.aload_n 0, 1) := by decide +kernel
theorem dX10_passRun_38 : decode cX10_passRun 38 = .ok (.getfield 22, 3) := by decide +kernel
theorem dX10_passRun_41 : decode cX10_passRun 41 = .ok (.baload, 1) := by decide +kernel
theorem dX10_passRun_42 : decode cX10_passRun 42 = .ok (.iload_n 2, 1) := by decide +kernel
theorem dX10_passRun_43 : decode cX10_passRun 43 = .ok (.if_icmp .gt 16, 3) := by decide +kernel
theorem dX10_passRun_46 : decode cX10_passRun 46 = .ok (.aload_n 0, 1) := by decide +kernel
theorem dX10_passRun_47 : decode cX10_passRun 47 = .ok (.dup, 1) := by decide +kernel
theorem dX10_passRun_48 : decode cX10_passRun 48 = .ok (.getfield 22, 3) := by decide +kernel
theorem dX10_passRun_51 : decode cX10_passRun 51 = .ok (.iconst 1, 1) := by decide +kernel
theorem dX10_passRun_52 : decode cX10_passRun 52 = .ok (.iadd, 1) := by decide +kernel
theorem dX10_passRun_53 : decode cX10_passRun 53 = .ok (.putfield 22, 3) := by decide +kernel
theorem dX10_passRun_56 : decode cX10_passRun 56 = .ok (.goto (-56), 3) := by decide +kernel
theorem dX10_passRun_59 : decode cX10_passRun 59 = .ok (.return_, 1) := by decide +kernel
theorem dX10_fail_0 : decode cX10_fail 0 = .ok (.aload_n 0, 1) := by decide +kernel
theorem dX10_fail_1 : decode cX10_fail 1 = .ok (.getfield 44, 3) := by decide +kernel
theorem dX10_fail_4 : decode cX10_fail 4 = .ok (.iconst 5, 1) := by decide +kernel
theorem dX10_fail_5 : decode cX10_fail 5 = .ok (.if_icmp .eq 21, 3) := by decide +kernel
theorem dX10_fail_8 : decode cX10_fail 8 = .ok (.aload_n 0, 1) := by decide +kernel
theorem dX10_fail_9 : decode cX10_fail 9 = .ok (.iload_n 1, 1) := by decide +kernel
theorem dX10_fail_10 : decode cX10_fail 10 = .ok (.putfield 19, 3) := by decide +kernel
theorem dX10_fail_13 : decode cX10_fail 13 = .ok (.aload_n 0, 1) := by decide +kernel
theorem dX10_fail_14 : decode cX10_fail 14 = .ok (.aload_n 0, 1) := by decide +kernel
theorem dX10_fail_15 : decode cX10_fail 15 = .ok (.getfield 28, 3) := by decide +kernel
theorem dX10_fail_18 : decode cX10_fail 18 = .ok (.putfield 15, 3) := by decide +kernel
theorem dX10_fail_21 : decode cX10_fail 21 = .ok (.aload_n 0, 1) := by decide +kernel
theorem dX10_fail_22 : decode cX10_fail 22 = .ok (.iconst 5, 1) := by decide +kernel
theorem dX10_fail_23 : decode cX10_fail 23 = .ok (.putfield 44, 3) := by decide +kernel
theorem dX10_fail_26 : decode cX10_fail 26 = .ok (.return_, 1) := by decide +kernel
theorem dX10_mayGoOn_0 : decode cX10_mayGoOn 0 = .ok (.aload_n 0, 1) := by decide +kernel
theorem dX10_mayGoOn_1 : decode cX10_mayGoOn 1 = .ok (.getfield 44, 3) := by decide +kernel
theorem dX10_mayGoOn_4 : decode cX10_mayGoOn 4 = .ok (.ifCond .eq 15, 3) := by decide +kernel
theorem dX10_mayGoOn_7 : decode cX10_mayGoOn 7 = .ok (.aload_n 0, 1) := by decide +kernel
theorem dX10_mayGoOn_8 : decode cX10_mayGoOn 8 = .ok (.getfield 44, 3) := by decide +kernel
theorem dX10_mayGoOn_11 : decode cX10_mayGoOn 11 = .ok (.iconst 5, 1) := by decide +kernel
theorem dX10_mayGoOn_12 : decode cX10_mayGoOn 12 = .ok (.if_icmp .eq 7, 3) := by decide +kernel
theorem dX10_mayGoOn_15 : decode cX10_mayGoOn 15 = .ok (.iconst 1, 1) := by decide +kernel
theorem dX10_mayGoOn_16 : decode cX10_mayGoOn 16 = .ok (.goto 4, 3) := by decide +kernel
theorem dX10_mayGoOn_19 : decode cX10_mayGoOn 19 = .ok (.iconst 0, 1) := by decide +kernel
theorem dX10_mayGoOn_20 : decode cX10_mayGoOn 20 = .ok (.ireturn, 1) := by decide +kernel
theorem dX10_isAnyWord_0 : decode cX10_isAnyWord 0 = .ok (.aload_n 0, 1) := by decide +kernel
theorem dX10_isAnyWord_1 : decode cX10_isAnyWord 1 = .ok (.getfield 44, 3) := by decide +kernel
theorem dX10_isAnyWord_4 : decode cX10_isAnyWord 4 = .ok (.iconst 1, 1) := by decide +kernel
theorem dX10_isAnyWord_5 : decode cX10_isAnyWord 5 = .ok (.if_icmp .ne 7, 3) := by decide +kernel
theorem dX10_isAnyWord_8 : decode cX10_isAnyWord 8 = .ok (.iconst 1, 1) := by decide +kernel
theorem dX10_isAnyWord_9 : decode cX10_isAnyWord 9 = .ok (.goto 4, 3) := by decide +kernel
theorem dX10_isAnyWord_12 : decode cX10_isAnyWord 12 = .ok (.iconst 0, 1) := by decide +kernel
theorem dX10_isAnyWord_13 : decode cX10_isAnyWord 13 = .ok (.ireturn, 1) := by decide +kernel
set_option maxRecDepth 20000 in
theorem ggX10_isWord_J0_length_8abf5 : GoodIn wsX10_isWord wsJ0_length_8abf5 := goodIn_r _ [9, 10, 11, 12, 13, 8, 14, 15, 16] rfl (by decide +kernel)
set_option maxRecDepth 20000 in
theorem gX10_isWord_J0_length_8abf5 : GoodIn wsX10_isWord (wsV RX10 55 RJ0 yJ0_length_8abf5 wsJ0_length_8abf5) := goodIn_app (goodIn_of _ (by decide +kernel)) ggX10_isWord_J0_length_8abf5
set_option maxRecDepth 20000 in
theorem ggX10_isWord_J0_charAt_5068e : GoodIn wsX10_isWord wsJ0_charAt_5068e := goodIn_r _ [20, 10, 21, 22, 23, 8, 24, 15, 16, 25, 26, 27, 28, 29, 30, 31, 32, 33, 34, 35, 36, 37, 38, 39, 40, 41, 42, 43, 44, 45, 46, 47, 48, 49, 50, 51, 52, 53] rfl (by decide +kernel)
set_option maxRecDepth 20000 in
theorem gX10_isWord_J0_charAt_5068e : GoodIn wsX10_isWord (wsV RX10 60 RJ0 yJ0_charAt_5068e wsJ0_charAt_5068e) := goodIn_app (goodIn_of _ (by decide +kernel)) ggX10_isWord_J0_charAt_5068e
theorem dX10_isWord_0 : decode cX10_isWord 0 = .ok (.aload_n 0, 1) := by decide +kernel
theorem dX10_isWord_1 : decode cX10_isWord 1 = .ok (.getfield 44, 3) := by decide +kernel
theorem dX10_isWord_4 : decode cX10_isWord 4 = .ok (.iconst 1, 1) := by decide +kernel
theorem dX10_isWord_5 : decode cX10_isWord 5 = .ok (.if_icmp .ne 19, 3) := by decide +kernel
theorem dX10_isWord_8 : decode cX10_isWord 8 = .ok (.aload_n 0, 1) := by decide +kernel
theorem dX10_isWord_9 : decode cX10_isWord 9 = .ok (.getfield 22, 3) := by decide +kernel
theorem dX10_isWord_12 : decode cX10_isWord 12 = .ok (.aload_n 0, 1) := by decide +kernel
theorem dX10_isWord_13 : decode cX10_isWord 13 = .ok (.getfield 28, 3) := by decide +kernel
theorem dX10_isWord_16 : decode cX10_isWord 16 = .ok (.isub, 1) := by decide +kernel
theorem dX10_isWord_17 : decode cX10_isWord 17 = .ok (.aload_n 1, 1) := by decide +kernel
theorem dX10_isWord_18 : decode cX10_isWord 18 = .ok (.invokevirtual 55, 3) := by decide +kernel
theorem dX10_isWord_21 : decode cX10_isWord 21 = .ok (.if_icmp .eq 5, 3) := by decide +kernel
theorem dX10_isWord_24 : decode cX10_isWord 24 = .ok (.iconst 0, 1) := by decide +kernel
theorem dX10_isWord_25 : decode cX10_isWord 25 = .ok (.ireturn, 1) := by decide +kernel
theorem dX10_isWord_26 : decode cX10_isWord 26 = .ok (.iconst 0, 1) := by decide +kernel
theorem dX10_isWord_27 : decode cX10_isWord 27 = .ok (.istore_n 2, 1) := by decide +kernel
theorem dX10_isWord_28 : decode cX10_isWord 28 = .ok (.iload_n 2, 1) := by decide +kernel
theorem dX10_isWord_29 : decode cX10_isWord 29 = .ok (.aload_n 1, 1) := by decide +kernel
theorem dX10_isWord_30 : decode cX10_isWord 30 = .ok (.invokevirtual 55, 3) := by decide +kernel
theorem dX10_isWord_33 : decode cX10_isWord 33 = .ok (.if_icmp .ge 33, 3) := by decide +kernel
theorem dX10_isWord_36 : decode cX10_isWord 36 = .ok (.aload_n 0, 1) := by decide +kernel
theorem dX10_isWord_37 : decode cX10_isWord 37 = .ok (.getfield 9, 3) := by decide +kernel
theorem dX10_isWord_40 : decode cX10_isWord 40 = .ok (.getfield 36, 3) := by decide +kernel
theorem dX10_isWord_43 : decode cX10_isWord 43 = .ok (.aload_n 0, 1) := by decide +kernel
theorem dX10_isWord_44 : decode cX10_isWord 44 = .ok (.getfield 28, 3) := by decide +kernel
theorem dX10_isWord_47 : decode cX10_isWord 47 = .ok (.iload_n 2, 1) := by decide +kernel
theorem dX10_isWord_48 : decode cX10_isWord 48 = .ok (.iadd, 1) := by decide +kernel
theorem dX10_isWord_49 : decode cX10_isWord 49 = .ok (.baload, 1) := by decide +kernel
theorem dX10_isWord_50 : decode cX10_isWord 50 = .ok (.aload_n 1, 1) := by decide +kernel
theorem dX10_isWord_51 : decode cX10_isWord 51 = .ok (.iload_n 2, 1) := by decide +kernel
theorem dX10_isWord_52 : decode cX10_isWord 52 = .ok (.invokevirtual 60, 3) := by decide +kernel
theorem dX10_isWord_55 : decode cX10_isWord 55 = .ok (.if_icmp .eq 5, 3) := by decide +kernel
theorem dX10_isWord_58 : decode cX10_isWord 58 = .ok (.iconst 0, 1) := by decide +kernel
theorem dX10_isWord_59 : decode cX10_isWord 59 = .ok (.ireturn, 1) := by decide +kernel
theorem dX10_isWord_60 : decode cX10_isWord 60 = .ok (.iinc 2 1, 3) := by decide +kernel
theorem dX10_isWord_63 : decode cX10_isWord 63 = .ok (.goto (-35), 3) := by decide +kernel
theorem dX10_isWord_66 : decode cX10_isWord 66 = .ok (.iconst 1, 1) := by decide +kernel
theorem dX10_isWord_67 : decode cX10_isWord 67 = .ok (.ireturn, 1) := by decide +kernel
set_option maxRecDepth 20000 in
theorem ggX10_accept_X10_isWord : GoodIn wsX10_accept wsX10_isWord := goodIn_r _ [5, 6, 7, 8, 9, 10, 11, 12, 13, 14, 15, 16, 17, 18, 19, 20, 21, 22, 23, 24, 25, 26, 27, 28, 29, 30, 31, 32, 33, 34, 35, 36, 37, 38, 39, 40, 41, 42, 43, 44, 45, 46, 47, 48, 49, 50, 51, 52, 53, 54, 55, 56, 57, 58, 73, 74, 75, 76, 77, 78, 79, 80] rfl (by decide +kernel)
set_option maxRecDepth 20000 in
theorem gX10_accept_X10_isWord : GoodIn wsX10_accept (wsV RX10 64 RX10 yX10_isWord wsX10_isWord) := goodIn_app (goodIn_of _ (by decide +kernel)) ggX10_accept_X10_isWord
set_option maxRecDepth 20000 in
theorem ggX10_accept_X10_advance : GoodIn wsX10_accept wsX10_advance := goodIn_r _ [62, 7, 8, 9, 6, 63, 64, 4, 65, 66, 67, 68, 69, 70, 71, 72, 73, 74, 75, 76, 77, 78, 79, 80] rfl (by decide +kernel)
set_option maxRecDepth 20000 in
theorem gX10_accept_X10_advance : GoodIn wsX10_accept (wsV RX10 25 RX10 yX10_advance wsX10_advance) := goodIn_app (goodIn_of _ (by decide +kernel)) ggX10_accept_X10_advance
theorem dX10_accept_0 : decode cX10_accept 0 = .ok (.aload_n 0, 1) := by decide +kernel
theorem dX10_accept_1 : decode cX10_accept 1 = .ok (.aload_n 1, 1) := by decide +kernel
theorem dX10_accept_2 : decode cX10_accept 2 = .ok (.invokevirtual 64, 3) := by decide +kernel
theorem dX10_accept_5 : decode cX10_accept 5 = .ok (.istore_n 2, 1) := by decide +kernel
theorem dX10_accept_6 : decode cX10_accept 6 = .ok (.iload_n 2, 1) := by decide +kernel
theorem dX10_accept_7 : decode cX10_accept 7 = .ok (.ifCond .eq 7, 3) := by decide +kernel
theorem dX10_accept_10 : decode cX10_accept 10 = .ok (.aload_n 0, 1) := by decide +kernel
theorem dX10_accept_11 : decode cX10_accept 11 = .ok (.invokevirtual 25, 3) := by decide +kernel
theorem dX10_accept_14 : decode cX10_accept 14 = .ok (.iload_n 2, 1) := by decide +kernel
theorem dX10_accept_15 : decode cX10_accept 15 = .ok (.ireturn, 1) := by decide +kernel
set_option maxRecDepth 20000 in
theorem ggX10_expectSemicolon_X10_fail : GoodIn wsX10_expectSemicolon wsX10_fail := goodIn_r _ [6, 1, 7, 8, 9, 26, 27, 28, 29, 30, 31] rfl (by decide +kernel)
set_option maxRecDepth 20000 in
theorem gX10_expectSemicolon_X10_fail : GoodIn wsX10_expectSemicolon (wsV RX10 68 RX10 yX10_fail wsX10_fail) := goodIn_app (goodIn_of _ (by decide +kernel)) ggX10_expectSemicolon_X10_fail
set_option maxRecDepth 20000 in
theorem ggX10_expectSemicolon_X10_advance : GoodIn wsX10_expectSemicolon wsX10_advance := goodIn_r _ [13, 14, 8, 15, 1, 16, 17, 5, 18, 19, 20, 21, 22, 23, 24, 25, 26, 27, 28, 29, 30, 31, 32, 33] rfl (by decide +kernel)
set_option maxRecDepth 20000 in
theorem gX10_expectSemicolon_X10_advance : GoodIn wsX10_expectSemicolon (wsV RX10 25 RX10 yX10_advance wsX10_advance) := goodIn_app (goodIn_of _ (by decide +kernel)) ggX10_expectSemicolon_X10_advance
theorem dX10_expectSemicolon_0 : decode cX10_expectSemicolon 0 = .ok (.aload_n 0, 1) := by decide +kernel
theorem dX10_expectSemicolon_1 : decode cX10_expectSemicolon 1 = .ok (.getfield 44, 3) := by decide +kernel
theorem dX10_expectSemicolon_4 : decode cX10_expectSemicolon 4 = .ok (.iconst 3, 1) := by decide +kernel
theorem dX10_expectSemicolon_5 : decode cX10_expectSemicolon 5 = .ok (.if_icmp .eq 9, 3) := by decide +kernel
theorem dX10_expectSemicolon_8 : decode cX10_expectSemicolon 8 = .ok (.aload_n 0, 1) := by decide +kernel
theorem dX10_expectSemicolon_9 : decode cX10_expectSemicolon 9 = .ok (.iconst 1, 1) := by decide +kernel
theorem dX10_expectSemicolon_10 : decode cX10_expectSemicolon 10 = .ok (.invokevirtual 68, 3) := by decide +kernel
theorem dX10_expectSemicolon_13 : decode cX10_expectSemicolon 13 = .ok (.return_, 1) := by decide +kernel
theorem dX10_expectSemicolon_14 : decode cX10_expectSemicolon 14 = .ok (.aload_n 0, 1) := by decide +kernel
theorem dX10_expectSemicolon_15 : decode cX10_expectSemicolon 15 = .ok (.invokevirtual 25, 3) := by decide +kernel
theorem dX10_expectSemicolon_18 : decode cX10_expectSemicolon 18 = .ok (.return_, 1) := by decide +kernel
set_option maxRecDepth 20000 in
theorem ggX10_expectNumber_X10_fail : GoodIn wsX10_expectNumber wsX10_fail := goodIn_r _ [9, 1, 10, 2, 11, 26, 27, 28, 29, 30, 31] rfl (by decide +kernel)
set_option maxRecDepth 20000 in
theorem gX10_expectNumber_X10_fail : GoodIn wsX10_expectNumber (wsV RX10 68 RX10 yX10_fail wsX10_fail) := goodIn_app (goodIn_of _ (by decide +kernel)) ggX10_expectNumber_X10_fail
set_option maxRecDepth 20000 in
theorem ggX10_expectNumber_X11_isWithin : GoodIn wsX10_expectNumber wsX11_isWithin := goodIn_r _ [14] rfl (by decide +kernel)
set_option maxRecDepth 20000 in
theorem gX10_expectNumber_X11_isWithin_n47 : GoodIn wsX10_expectNumber (wsX11_isWithin) := ggX10_expectNumber_X11_isWithin
set_option maxRecDepth 20000 in
theorem ggX10_expectNumber_X10_advance : GoodIn wsX10_expectNumber wsX10_advance := goodIn_r _ [18, 3, 2, 4, 1, 19, 20, 8, 21, 12, 13, 14, 22, 23, 24, 25, 26, 27, 28, 29, 30, 31, 32, 33] rfl (by decide +kernel)
set_option maxRecDepth 20000 in
theorem gX10_expectNumber_X10_advance : GoodIn wsX10_expectNumber (wsV RX10 25 RX10 yX10_advance wsX10_advance) := goodIn_app (goodIn_of _ (by decide +kernel)) ggX10_expectNumber_X10_advance
theorem dX10_expectNumber_0 : decode cX10_expectNumber 0 = .ok (.aload_n 0, 1) := by decide +kernel
theorem dX10_expectNumber_1 : decode cX10_expectNumber 1 = .ok (.getfield 44, 3) := by decide +kernel
theorem dX10_expectNumber_4 : decode cX10_expectNumber 4 = .ok (.iconst 2, 1) := by decide +kernel
theorem dX10_expectNumber_5 : decode cX10_expectNumber 5 = .ok (.if_icmp .eq 10, 3) := by decide +kernel
theorem dX10_expectNumber_8 : decode cX10_expectNumber 8 = .ok (.aload_n 0, 1) := by decide +kernel
theorem dX10_expectNumber_9 : decode cX10_expectNumber 9 = .ok (.iconst 1, 1) := by decide +kernel
theorem dX10_expectNumber_10 : decode cX10_expectNumber 10 = .ok (.invokevirtual 68, 3) := by decide +kernel
theorem dX10_expectNumber_13 : decode cX10_expectNumber 13 = .ok (.iload_n 1, 1) := by decide +kernel
theorem dX10_expectNumber_14 : decode cX10_expectNumber 14 = .ok (.ireturn, 1) := by decide +kernel
theorem dX10_expectNumber_15 : decode cX10_expectNumber 15 = .ok (.iconst 0, 1) := by decide +kernel
theorem dX10_expectNumber_16 : decode cX10_expectNumber 16 = .ok (.istore_n 3, 1) := by decide +kernel
theorem dX10_expectNumber_17 : decode cX10_expectNumber 17 = .ok (.aload_n 0, 1) := by decide +kernel
theorem dX10_expectNumber_18 : decode cX10_expectNumber 18 = .ok (.getfield 28, 3) := by decide +kernel
theorem dX10_expectNumber_21 : decode cX10_expectNumber 21 = .ok (.istore 4, 2) := by decide +kernel
theorem dX10_expectNumber_23 : decode cX10_expectNumber 23 = .ok (.iload 4, 2) := by decide +kernel
theorem dX10_expectNumber_25 : decode cX10_expectNumber 25 = .ok (.aload_n 0, 1) := by decide +kernel
theorem dX10_expectNumber_26 : decode cX10_expectNumber 26 = .ok (.getfield 22, 3) := by decide +kernel
theorem dX10_expectNumber_29 : decode cX10_expectNumber 29 = .ok (.if_icmp .ge 28, 3) := by decide +kernel
theorem dX10_expectNumber_32 : decode cX10_expectNumber 32 = .ok (.iload_n 3, 1) := by decide +kernel
theorem dX10_expectNumber_33 : decode cX10_expectNumber 33 = .ok (.bipush 10, 2) := by decide +kernel
theorem dX10_expectNumber_35 : decode cX10_expectNumber 35 = .ok (.imul, 1) := by decide +kernel
theorem dX10_expectNumber_36 : decode cX10_expectNumber 36 = .ok (.aload_n 0, 1) := by decide +kernel
theorem dX10_expectNumber_37 : decode cX10_expectNumber 37 = .ok (.getfield 9, 3) := by decide +kernel
theorem dX10_expectNumber_40 : decode cX10_expectNumber 40 = .ok (.getfield 36, 3) := by decide +kernel
theorem dX10_expectNumber_43 : decode cX10_expectNumber 43 = .ok (.iload 4, 2) := by decide +kernel
theorem dX10_expectNumber_45 : decode cX10_expectNumber 45 = .ok (.baload, 1) := by decide +kernel
theorem dX10_expectNumber_46 : decode cX10_expectNumber 46 = .ok (.iadd, 1) := by decide +kernel
theorem dX10_expectNumber_47 : decode cX10_expectNumber 47 = .ok (.bipush 48, 2) := by decide +kernel
theorem dX10_expectNumber_49 : decode cX10_expectNumber 49 = .ok (.isub, 1) := by decide +kernel
theorem dX10_expectNumber_50 : decode cX10_expectNumber 50 = .ok (.istore_n 3, 1) := by decide +kernel
theorem dX10_expectNumber_51 : decode cX10_expectNumber 51 = .ok (.iinc 4 1, 3) := by decide +kernel
theorem dX10_expectNumber_54 : decode cX10_expectNumber 54 = .ok (.goto (-31), 3) := by decide +kernel
theorem dX10_expectNumber_57 : decode cX10_expectNumber 57 = .ok (.iload_n 3, 1) := by decide +kernel
theorem dX10_expectNumber_58 : decode cX10_expectNumber 58 = .ok (.iload_n 1, 1) := by decide +kernel
theorem dX10_expectNumber_59 : decode cX10_expectNumber 59 = .ok (.iload_n 2, 1) := by decide +kernel
theorem dX10_expectNumber_60 : decode cX10_expectNumber 60 = .ok (.invokestatic 47, 3) := by decide +kernel
theorem dX10_expectNumber_63 : decode cX10_expectNumber 63 = .ok (.ifCond .ne 10, 3) := by decide +kernel
theorem dX10_expectNumber_66 : decode cX10_expectNumber 66 = .ok (.aload_n 0, 1) := by decide +kernel
theorem dX10_expectNumber_67 : decode cX10_expectNumber 67 = .ok (.iconst 2, 1) := by decide +kernel
theorem dX10_expectNumber_68 : decode cX10_expectNumber 68 = .ok (.invokevirtual 68, 3) := by decide +kernel
theorem dX10_expectNumber_71 : decode cX10_expectNumber 71 = .ok (.iload_n 1, 1) := by decide +kernel
theorem dX10_expectNumber_72 : decode cX10_expectNumber 72 = .ok (.ireturn, 1) := by decide +kernel
theorem dX10_expectNumber_73 : decode cX10_expectNumber 73 = .ok (.aload_n 0, 1) := by decide +kernel
theorem dX10_expectNumber_74 : decode cX10_expectNumber 74 = .ok (.invokevirtual 25, 3) := by decide +kernel
theorem dX10_expectNumber_77 : decode cX10_expectNumber 77 = .ok (.iload_n 3, 1) := by decide +kernel
theorem dX10_expectNumber_78 : decode cX10_expectNumber 78 = .ok (.ireturn, 1) := by decide +kernel
set_option maxRecDepth 20000 in
theorem ggX10_findName_X10_fail : GoodIn wsX10_findName wsX10_fail := goodIn_r _ [9, 1, 10, 3, 11, 24, 25, 26, 27, 28, 29] rfl (by decide +kernel)
set_option maxRecDepth 20000 in
theorem gX10_findName_X10_fail : GoodIn wsX10_findName (wsV RX10 68 RX10 yX10_fail wsX10_fail) := goodIn_app (goodIn_of _ (by decide +kernel)) ggX10_findName_X10_fail
set_option maxRecDepth 20000 in
theorem ggX10_findName_X4_indexOf : GoodIn wsX10_findName wsX4_indexOf := goodIn_r _ [16, 17, 18, 19, 20, 21, 15, 22, 23, 30, 31, 32, 33, 34] rfl (by decide +kernel)
set_option maxRecDepth 20000 in
theorem gX10_findName_X4_indexOf : GoodIn wsX10_findName (wsV RX10 72 RX4 yX4_indexOf wsX4_indexOf) := goodIn_app (goodIn_of _ (by decide +kernel)) ggX10_findName_X4_indexOf
theorem dX10_findName_0 : decode cX10_findName 0 = .ok (.aload_n 0, 1) := by decide +kernel
theorem dX10_findName_1 : decode cX10_findName 1 = .ok (.getfield 44, 3) := by decide +kernel
theorem dX10_findName_4 : decode cX10_findName 4 = .ok (.iconst 1, 1) := by decide +kernel
theorem dX10_findName_5 : decode cX10_findName 5 = .ok (.if_icmp .eq 10, 3) := by decide +kernel
theorem dX10_findName_8 : decode cX10_findName 8 = .ok (.aload_n 0, 1) := by decide +kernel
theorem dX10_findName_9 : decode cX10_findName 9 = .ok (.iconst 1, 1) := by decide +kernel
theorem dX10_findName_10 : decode cX10_findName 10 = .ok (.invokevirtual 68, 3) := by decide +kernel
theorem dX10_findName_13 : decode cX10_findName 13 = .ok (.iconst (-1), 1) := by decide +kernel
theorem dX10_findName_14 : decode cX10_findName 14 = .ok (.ireturn, 1) := by decide +kernel
theorem dX10_findName_15 : decode cX10_findName 15 = .ok (.aload_n 1, 1) := by decide +kernel
theorem dX10_findName_16 : decode cX10_findName 16 = .ok (.aload_n 0, 1) := by decide +kernel
theorem dX10_findName_17 : decode cX10_findName 17 = .ok (.getfield 9, 3) := by decide +kernel
theorem dX10_findName_20 : decode cX10_findName 20 = .ok (.aload_n 0, 1) := by decide +kernel
theorem dX10_findName_21 : decode cX10_findName 21 = .ok (.getfield 28, 3) := by decide +kernel
theorem dX10_findName_24 : decode cX10_findName 24 = .ok (.aload_n 0, 1) := by decide +kernel
theorem dX10_findName_25 : decode cX10_findName 25 = .ok (.getfield 22, 3) := by decide +kernel
theorem dX10_findName_28 : decode cX10_findName 28 = .ok (.invokevirtual 72, 3) := by decide +kernel
theorem dX10_findName_31 : decode cX10_findName 31 = .ok (.istore_n 2, 1) := by decide +kernel
theorem dX10_findName_32 : decode cX10_findName 32 = .ok (.iload_n 2, 1) := by decide +kernel
theorem dX10_findName_33 : decode cX10_findName 33 = .ok (.iconst (-1), 1) := by decide +kernel
theorem dX10_findName_34 : decode cX10_findName 34 = .ok (.if_icmp .ne 8, 3) := by decide +kernel
theorem dX10_findName_37 : decode cX10_findName 37 = .ok (.aload_n 0, 1) := by decide +kernel
theorem dX10_findName_38 : decode cX10_findName 38 = .ok (.iconst 3, 1) := by decide +kernel
theorem dX10_findName_39 : decode cX10_findName 39 = .ok (.invokevirtual 68, 3) := by decide +kernel
theorem dX10_findName_42 : decode cX10_findName 42 = .ok (.iload_n 2, 1) := by decide +kernel
theorem dX10_findName_43 : decode cX10_findName 43 = .ok (.ireturn, 1) := by decide +kernel
set_option maxRecDepth 20000 in
theorem ggX10_expectNewName_X10_fail : GoodIn wsX10_expectNewName wsX10_fail := goodIn_r _ [9, 1, 10, 3, 11, 46, 47, 48, 49, 50, 51] rfl (by decide +kernel)
set_option maxRecDepth 20000 in
theorem gX10_expectNewName_X10_fail : GoodIn wsX10_expectNewName (wsV RX10 68 RX10 yX10_fail wsX10_fail) := goodIn_app (goodIn_of _ (by decide +kernel)) ggX10_expectNewName_X10_fail
set_option maxRecDepth 20000 in
theorem ggX10_expectNewName_X4_indexOf : GoodIn wsX10_expectNewName wsX4_indexOf := goodIn_r _ [16, 17, 18, 19, 20, 21, 15, 22, 23, 52, 53, 54, 55, 56] rfl (by decide +kernel)
set_option maxRecDepth 20000 in
theorem gX10_expectNewName_X4_indexOf : GoodIn wsX10_expectNewName (wsV RX10 72 RX4 yX4_indexOf wsX4_indexOf) := goodIn_app (goodIn_of _ (by decide +kernel)) ggX10_expectNewName_X4_indexOf
set_option maxRecDepth 20000 in
theorem ggX10_expectNewName_X4_prepare : GoodIn wsX10_expectNewName wsX4_prepare := goodIn_r _ [27, 18, 17, 23, 28, 29, 30, 15, 31, 52, 53, 54, 55, 56] rfl (by decide +kernel)
set_option maxRecDepth 20000 in
theorem gX10_expectNewName_X4_prepare : GoodIn wsX10_expectNewName (wsV RX10 78 RX4 yX4_prepare wsX4_prepare) := goodIn_app (goodIn_of _ (by decide +kernel)) ggX10_expectNewName_X4_prepare
set_option maxRecDepth 20000 in
theorem ggX10_expectNewName_X10_advance : GoodIn wsX10_expectNewName wsX10_advance := goodIn_r _ [35, 2, 3, 4, 1, 36, 37, 8, 38, 39, 40, 41, 42, 43, 44, 45, 46, 47, 48, 49, 50, 51, 55, 56] rfl (by decide +kernel)
set_option maxRecDepth 20000 in
theorem gX10_expectNewName_X10_advance : GoodIn wsX10_expectNewName (wsV RX10 25 RX10 yX10_advance wsX10_advance) := goodIn_app (goodIn_of _ (by decide +kernel)) ggX10_expectNewName_X10_advance
theorem dX10_expectNewName_0 : decode cX10_expectNewName 0 = .ok (.aload_n 0, 1) := by decide +kernel
theorem dX10_expectNewName_1 : decode cX10_expectNewName 1 = .ok (.getfield 44, 3) := by decide +kernel
theorem dX10_expectNewName_4 : decode cX10_expectNewName 4 = .ok (.iconst 1, 1) := by decide +kernel
theorem dX10_expectNewName_5 : decode cX10_expectNewName 5 = .ok (.if_icmp .eq 9, 3) := by decide +kernel
theorem dX10_expectNewName_8 : decode cX10_expectNewName 8 = .ok (.aload_n 0, 1) := by decide +kernel
theorem dX10_expectNewName_9 : decode cX10_expectNewName 9 = .ok (.iconst 1, 1) := by decide +kernel
theorem dX10_expectNewName_10 : decode cX10_expectNewName 10 = .ok (.invokevirtual 68, 3) := by decide +kernel
theorem dX10_expectNewName_13 : decode cX10_expectNewName 13 = .ok (.return_, 1) := by decide +kernel
theorem dX10_expectNewName_14 : decode cX10_expectNewName 14 = .ok (.aload_n 0, 1) := by decide +kernel
theorem dX10_expectNewName_15 : decode cX10_expectNewName 15 = .ok (.getfield 22, 3) := by decide +kernel
theorem dX10_expectNewName_18 : decode cX10_expectNewName 18 = .ok (.aload_n 0, 1) := by decide +kernel
theorem dX10_expectNewName_19 : decode cX10_expectNewName 19 = .ok (.getfield 28, 3) := by decide +kernel
theorem dX10_expectNewName_22 : decode cX10_expectNewName 22 = .ok (.isub, 1) := by decide +kernel
theorem dX10_expectNewName_23 : decode cX10_expectNewName 23 = .ok (.bipush 6, 2) := by decide +kernel
theorem dX10_expectNewName_25 : decode cX10_expectNewName 25 = .ok (.if_icmp .gt 23, 3) := by decide +kernel
theorem dX10_expectNewName_28 : decode cX10_expectNewName 28 = .ok (.aload_n 1, 1) := by decide +kernel
theorem dX10_expectNewName_29 : decode cX10_expectNewName 29 = .ok (.aload_n 0, 1) := by decide +kernel
theorem dX10_expectNewName_30 : decode cX10_expectNewName 30 = .ok (.getfield 9, 3) := by decide +kernel
theorem dX10_expectNewName_33 : decode cX10_expectNewName 33 = .ok (.aload_n 0, 1) := by decide +kernel
theorem dX10_expectNewName_34 : decode cX10_expectNewName 34 = .ok (.getfield 28, 3) := by decide +kernel
theorem dX10_expectNewName_37 : decode cX10_expectNewName 37 = .ok (.aload_n 0, 1) := by decide +kernel
theorem dX10_expectNewName_38 : decode cX10_expectNewName 38 = .ok (.getfield 22, 3) := by decide +kernel
theorem dX10_expectNewName_41 : decode cX10_expectNewName 41 = .ok (.invokevirtual 72, 3) := by decide +kernel
theorem dX10_expectNewName_44 : decode cX10_expectNewName 44 = .ok (.iconst (-1), 1) := by decide +kernel
theorem dX10_expectNewName_45 : decode cX10_expectNewName 45 = .ok (.if_icmp .eq 9, 3) := by decide +kernel
theorem dX10_expectNewName_48 : decode cX10_expectNewName 48 = .ok (.aload_n 0, 1) := by decide +kernel
theorem dX10_expectNewName_49 : decode cX10_expectNewName 49 = .ok (.iconst 3, 1) := by decide +kernel
theorem dX10_expectNewName_50 : decode cX10_expectNewName 50 = .ok (.invokevirtual 68, 3) := by decide +kernel
theorem dX10_expectNewName_53 : decode cX10_expectNewName 53 = .ok (.return_, 1) := by decide +kernel
theorem dX10_expectNewName_54 : decode cX10_expectNewName 54 = .ok (.aload_n 1, 1) := by decide +kernel
theorem dX10_expectNewName_55 : decode cX10_expectNewName 55 = .ok (.aload_n 0, 1) := by decide +kernel
theorem dX10_expectNewName_56 : decode cX10_expectNewName 56 = .ok (.getfield 9, 3) := by decide +kernel
theorem dX10_expectNewName_59 : decode cX10_expectNewName 59 = .ok (.aload_n 0, 1) := by decide +kernel
theorem dX10_expectNewName_60 : decode cX10_expectNewName 60 = .ok (.getfield 28, 3) := by decide +kernel
theorem dX10_expectNewName_63 : decode cX10_expectNewName 63 = .ok (.aload_n 0, 1) := by decide +kernel
theorem dX10_expectNewName_64 : decode cX10_expectNewName 64 = .ok (.getfield 22, 3) := by decide +kernel
theorem dX10_expectNewName_67 : decode cX10_expectNewName 67 = .ok (.invokevirtual 78, 3) := by decide +kernel
theorem dX10_expectNewName_70 : decode cX10_expectNewName 70 = .ok (.aload_n 0, 1) := by decide +kernel
theorem dX10_expectNewName_71 : decode cX10_expectNewName 71 = .ok (.invokevirtual 25, 3) := by decide +kernel
theorem dX10_expectNewName_74 : decode cX10_expectNewName 74 = .ok (.return_, 1) := by decide +kernel
theorem dX10_isGap_0 : decode cX10_isGap 0 = .ok (.iload_n 0, 1) := by decide +kernel
theorem dX10_isGap_1 : decode cX10_isGap 1 = .ok (.bipush 32, 2) := by decide +kernel
theorem dX10_isGap_3 : decode cX10_isGap 3 = .ok (.if_icmp .eq 9, 3) := by decide +kernel
theorem dX10_isGap_6 : decode cX10_isGap 6 = .ok (.iload_n 0, 1) := by decide +kernel
theorem dX10_isGap_7 : decode cX10_isGap 7 = .ok (.bipush 10, 2) := by decide +kernel
theorem dX10_isGap_9 : decode cX10_isGap 9 = .ok (.if_icmp .ne 7, 3) := by decide +kernel
theorem dX10_isGap_12 : decode cX10_isGap 12 = .ok (.iconst 1, 1) := by decide +kernel
theorem dX10_isGap_13 : decode cX10_isGap 13 = .ok (.goto 4, 3) := by decide +kernel
theorem dX10_isGap_16 : decode cX10_isGap 16 = .ok (.iconst 0, 1) := by decide +kernel
theorem dX10_isGap_17 : decode cX10_isGap 17 = .ok (.ireturn, 1) := by decide +kernel
set_option maxRecDepth 20000 in
theorem ggX11_init_X9_init : GoodIn wsX11_init wsX9_init := goodIn_r _ [42, 43, 2, 3, 44, 45, 315, 316] rfl (by decide +kernel)
set_option maxRecDepth 20000 in
theorem gX11_init_X9_init : GoodIn wsX11_init (wsX9_init) := ggX11_init_X9_init
set_option maxRecDepth 20000 in
theorem ggX11_init_X10_init : GoodIn wsX11_init wsX10_init := goodIn_r _ [48, 49, 2, 3, 50, 51, 317, 318, 319, 320, 321, 322] rfl (by decide +kernel)
set_option maxRecDepth 20000 in
theorem gX11_init_X10_init : GoodIn wsX11_init (wsX10_init) := ggX11_init_X10_init
set_option maxRecDepth 20000 in
theorem ggX11_init_X7_init : GoodIn wsX11_init wsX7_init := goodIn_r _ [54, 55, 2, 3, 56, 323] rfl (by decide +kernel)
set_option maxRecDepth 20000 in
theorem gX11_init_X7_init : GoodIn wsX11_init (wsX7_init) := ggX11_init_X7_init
set_option maxRecDepth 20000 in
theorem ggX11_init_X5_init : GoodIn wsX11_init wsX5_init := goodIn_r _ [58, 59, 2, 3, 60, 61, 62, 63, 64, 65, 66, 67, 68, 69, 70, 71, 72, 73, 74, 75, 76, 77, 78, 79, 80, 44, 81, 82, 380, 381, 382, 324, 325, 326, 327, 328, 329, 330, 331, 332, 333, 334, 335, 336, 337, 338, 339, 340] rfl (by decide +kernel)
set_option maxRecDepth 20000 in
theorem gX11_init_X5_init_n26 : GoodIn wsX11_init (wsX5_init) := ggX11_init_X5_init
set_option maxRecDepth 20000 in
theorem ggX11_init_X9_addString : GoodIn wsX11_init wsX9_addString := goodIn_r _ [86, 87, 88, 89, 90, 91, 92, 93, 94, 95, 96, 97, 98, 99, 100, 101, 102, 103, 104, 105, 106, 107, 108, 109, 110, 111, 112, 113, 114, 115, 116, 117, 118, 119, 120, 121, 122, 123, 124, 125, 126, 127, 128, 129, 130, 131, 132, 133, 134, 135, 136, 137, 138, 6, 139, 140, 45, 315, 316] rfl (by decide +kernel)
set_option maxRecDepth 20000 in
theorem gX11_init_X9_addString : GoodIn wsX11_init (wsV RX11 29 RX9 yX9_addString wsX9_addString) := goodIn_app (goodIn_of _ (by decide +kernel)) ggX11_init_X9_addString
set_option maxRecDepth 20000 in
theorem ggX11_init_X7_readInto : GoodIn wsX11_init wsX7_readInto := goodIn_r _ [144, 56, 145, 146, 147, 15, 148, 63, 67, 149, 150, 66, 73, 74, 75, 151, 152, 153, 154, 155, 156, 157, 9, 158, 159, 51, 160, 161, 162, 163, 164, 165, 50, 166, 167, 168, 169, 170, 171, 172, 173, 174, 175, 176, 177, 178, 179, 12, 180, 181, 182, 183, 184, 185, 186, 187, 188, 189, 88, 89, 90, 91, 92, 93, 94, 95, 96, 97, 98, 190, 100, 101, 102, 103, 104, 105, 106, 107, 108, 109, 110, 111, 112, 113, 114, 115, 116, 117, 118, 119, 120, 121, 122, 123, 124, 125, 126, 127, 128, 129, 130, 131, 132, 133, 134, 135, 191, 192, 193, 194, 195, 196, 197, 198, 199, 200, 201, 202, 203, 204, 205, 206, 207, 208, 209, 210, 211, 62, 212, 213, 82, 214, 215, 216, 217, 218, 219, 220, 221, 222, 223, 224, 225, 226, 81, 227, 228, 229, 230, 231, 232, 233, 234, 235, 236, 237, 238, 239, 240, 241, 242, 243, 244, 245, 246, 247, 248, 249, 250, 251, 252, 253, 254, 255, 256, 257, 72, 258, 259, 260, 261, 323, 324, 325, 326, 327, 328, 329, 330, 331, 332, 333, 334, 335, 336, 337, 338, 339, 340, 380, 381, 382, 317, 318, 319, 320, 321, 322, 315, 316] rfl (by decide +kernel)
set_option maxRecDepth 20000 in
theorem gX11_init_X7_readInto : GoodIn wsX11_init (wsV RX11 33 RX7 yX7_readInto wsX7_readInto) := goodIn_app (goodIn_of _ (by decide +kernel)) ggX11_init_X7_readInto
set_option maxRecDepth 20000 in
theorem ggX11_init_X6_init : GoodIn wsX11_init wsX6_init := goodIn_r _ [264, 265, 2, 3, 266, 267, 64, 268, 269, 270, 271, 352, 353, 354, 355, 356] rfl (by decide +kernel)
set_option maxRecDepth 20000 in
theorem gX11_init_X6_init : GoodIn wsX11_init (wsX6_init) := ggX11_init_X6_init
set_option maxRecDepth 20000 in
theorem ggX11_init_X3_init : GoodIn wsX11_init wsX3_init := goodIn_r _ [274, 275, 2, 3, 276, 35, 36, 277, 64, 278, 279, 280, 281, 282, 283, 284, 285, 286, 287, 288, 289, 290, 291, 292, 293, 294, 295, 296, 297, 298, 299, 300, 301, 302, 303, 304, 305, 306, 307, 308, 152, 153, 154, 365, 366, 367, 368, 369, 370, 371, 372, 373, 374, 375, 376, 377, 378, 379, 357, 358, 359, 360, 361, 324, 325, 326, 327, 328, 329, 330, 331, 332, 333, 334, 335, 336, 337, 338, 339, 340] rfl (by decide +kernel)
set_option maxRecDepth 20000 in
theorem gX11_init_X3_init : GoodIn wsX11_init (wsX3_init) := ggX11_init_X3_init
set_option maxRecDepth 20000 in
theorem ggX11_init_X2_init : GoodIn wsX11_init wsX2_init := goodIn_r _ [311, 312, 2, 3, 313, 314, 35, 36, 282, 283, 284, 64, 285, 286, 287, 288, 289, 290, 362, 363, 364, 365, 366, 367, 368, 369, 370, 371, 372, 373, 374, 375, 376, 377, 378, 379] rfl (by decide +kernel)
set_option maxRecDepth 20000 in
theorem gX11_init_X2_init : GoodIn wsX11_init (wsX2_init) := ggX11_init_X2_init
set_option maxRecDepth 20000 in
theorem ggX11_init_X8_init : GoodIn wsX11_init wsX8_init := goodIn_r _ [283, 284, 2, 3, 64, 285, 286, 287, 288, 289, 290, 365, 366, 367, 368, 369, 370, 371, 372, 373, 374, 375, 376, 377, 378, 379] rfl (by decide +kernel)
set_option maxRecDepth 20000 in
theorem gX11_init_X8_init_n87 : GoodIn wsX11_init (wsX8_init) := ggX11_init_X8_init
theorem dX11_init_0 : decode cX11_init 0 = .ok (.aload_n 0, 1) := by decide +kernel
theorem dX11_init_1 : decode cX11_init 1 = .ok (.invokespecial 3, 3) := by decide +kernel
theorem dX11_init_4 : decode cX11_init 4 = .ok (.new 9, 3) := by decide +kernel
theorem dX11_init_7 : decode cX11_init 7 = .ok (.dup, 1) := by decide +kernel
theorem dX11_init_8 : decode cX11_init 8 = .ok (.sipush 700, 3) := by decide +kernel
theorem dX11_init_11 : decode cX11_init 11 = .ok (.invokespecial 11, 3) := by decide +kernel
theorem dX11_init_14 : decode cX11_init 14 = .ok (.astore_n 1, 1) := by decide +kernel
theorem dX11_init_15 : decode cX11_init 15 = .ok (.new 14, 3) := by decide +kernel
theorem dX11_init_18 : decode cX11_init 18 = .ok (.dup, 1) := by decide +kernel
theorem dX11_init_19 : decode cX11_init 19 = .ok (.aload_n 1, 1) := by decide +kernel
theorem dX11_init_20 : decode cX11_init 20 = .ok (.invokespecial 16, 3) := by decide +kernel
theorem dX11_init_23 : decode cX11_init 23 = .ok (.astore_n 2, 1) := by decide +kernel
theorem dX11_init_24 : decode cX11_init 24 = .ok (.new 19, 3) := by decide +kernel
theorem dX11_init_27 : decode cX11_init 27 = .ok (.dup, 1) := by decide +kernel
theorem dX11_init_28 : decode cX11_init 28 = .ok (.aload_n 2, 1) := by decide +kernel
theorem dX11_init_29 : decode cX11_init 29 = .ok (.invokespecial 21, 3) := by decide +kernel
theorem dX11_init_32 : decode cX11_init 32 = .ok (.astore_n 3, 1) := by decide +kernel
theorem dX11_init_33 : decode cX11_init 33 = .ok (.new 24, 3) := by decide +kernel
theorem dX11_init_36 : decode cX11_init 36 = .ok (.dup, 1) := by decide +kernel
theorem dX11_init_37 : decode cX11_init 37 = .ok (.invokespecial 26, 3) := by decide +kernel
theorem dX11_init_40 : decode cX11_init 40 = .ok (.astore 4, 2) := by decide +kernel
theorem dX11_init_42 : decode cX11_init 42 = .ok (.aload_n 1, 1) := by decide +kernel
theorem dX11_init_43 : decode cX11_init 43 = .ok (.ldc 27, 2) := by decide +kernel
theorem dX11_init_45 : decode cX11_init 45 = .ok (.invokevirtual 29, 3) := by decide +kernel
theorem dX11_init_48 : decode cX11_init 48 = .ok (.aload_n 3, 1) := by decide +kernel
theorem dX11_init_49 : decode cX11_init 49 = .ok (.aload 4, 2) := by decide +kernel
theorem dX11_init_51 : decode cX11_init 51 = .ok (.invokevirtual 33, 3) := by decide +kernel
theorem dX11_init_54 : decode cX11_init 54 = .ok (.aload_n 1, 1) := by decide +kernel
theorem dX11_init_55 : decode cX11_init 55 = .ok (.iconst 0, 1) := by decide +kernel
theorem dX11_init_56 : decode cX11_init 56 = .ok (.putfield 37, 3) := by decide +kernel
theorem dX11_init_59 : decode cX11_init 59 = .ok (.aload_n 0, 1) := by decide +kernel
theorem dX11_init_60 : decode cX11_init 60 = .ok (.aload_n 1, 1) := by decide +kernel
theorem dX11_init_61 : decode cX11_init 61 = .ok (.putfield 41, 3) := by decide +kernel
theorem dX11_init_64 : decode cX11_init 64 = .ok (.aload_n 0, 1) := by decide +kernel
theorem dX11_init_65 : decode cX11_init 65 = .ok (.new 9, 3) := by decide +kernel
theorem dX11_init_68 : decode cX11_init 68 = .ok (.dup, 1) := by decide +kernel
theorem dX11_init_69 : decode cX11_init 69 = .ok (.bipush 125, 2) := by decide +kernel
theorem dX11_init_71 : decode cX11_init 71 = .ok (.invokespecial 11, 3) := by decide +kernel
theorem dX11_init_74 : decode cX11_init 74 = .ok (.putfield 45, 3) := by decide +kernel
theorem dX11_init_77 : decode cX11_init 77 = .ok (.aload_n 0, 1) := by decide +kernel
theorem dX11_init_78 : decode cX11_init 78 = .ok (.aload_n 2, 1) := by decide +kernel
theorem dX11_init_79 : decode cX11_init 79 = .ok (.putfield 48, 3) := by decide +kernel
theorem dX11_init_82 : decode cX11_init 82 = .ok (.aload_n 0, 1) := by decide +kernel
theorem dX11_init_83 : decode cX11_init 83 = .ok (.aload_n 3, 1) := by decide +kernel
theorem dX11_init_84 : decode cX11_init 84 = .ok (.putfield 52, 3) := by decide +kernel
theorem dX11_init_87 : decode cX11_init 87 = .ok (.aload_n 0, 1) := by decide +kernel
theorem dX11_init_88 : decode cX11_init 88 = .ok (.new 56, 3) := by decide +kernel
theorem dX11_init_91 : decode cX11_init 91 = .ok (.dup, 1) := by decide +kernel
theorem dX11_init_92 : decode cX11_init 92 = .ok (.aload_n 2, 1) := by decide +kernel
theorem dX11_init_93 : decode cX11_init 93 = .ok (.invokespecial 58, 3) := by decide +kernel
theorem dX11_init_96 : decode cX11_init 96 = .ok (.putfield 59, 3) := by decide +kernel
theorem dX11_init_99 : decode cX11_init 99 = .ok (.aload_n 0, 1) := by decide +kernel
theorem dX11_init_100 : decode cX11_init 100 = .ok (.new 63, 3) := by decide +kernel
theorem dX11_init_103 : decode cX11_init 103 = .ok (.dup, 1) := by decide +kernel
theorem dX11_init_104 : decode cX11_init 104 = .ok (.aload 4, 2) := by decide +kernel
theorem dX11_init_106 : decode cX11_init 106 = .ok (.invokespecial 65, 3) := by decide +kernel
theorem dX11_init_109 : decode cX11_init 109 = .ok (.putfield 67, 3) := by decide +kernel
theorem dX11_init_112 : decode cX11_init 112 = .ok (.aload_n 0, 1) := by decide +kernel
theorem dX11_init_113 : decode cX11_init 113 = .ok (.new 63, 3) := by decide +kernel
theorem dX11_init_116 : decode cX11_init 116 = .ok (.dup, 1) := by decide +kernel
theorem dX11_init_117 : decode cX11_init 117 = .ok (.aload 4, 2) := by decide +kernel
theorem dX11_init_119 : decode cX11_init 119 = .ok (.invokespecial 65, 3) := by decide +kernel
theorem dX11_init_122 : decode cX11_init 122 = .ok (.putfield 71, 3) := by decide +kernel
theorem dX11_init_125 : decode cX11_init 125 = .ok (.aload_n 0, 1) := by decide +kernel
theorem dX11_init_126 : decode cX11_init 126 = .ok (.new 74, 3) := by decide +kernel
theorem dX11_init_129 : decode cX11_init 129 = .ok (.dup, 1) := by decide +kernel
theorem dX11_init_130 : decode cX11_init 130 = .ok (.invokespecial 76, 3) := by decide +kernel
theorem dX11_init_133 : decode cX11_init 133 = .ok (.putfield 77, 3) := by decide +kernel
theorem dX11_init_136 : decode cX11_init 136 = .ok (.aload_n 0, 1) := by decide +kernel
theorem dX11_init_137 : decode cX11_init 137 = .ok (.iconst 2, 1) := by decide +kernel
theorem dX11_init_138 : decode cX11_init 138 = .ok (.anewarray 81, 3) := by decide +kernel
theorem dX11_init_141 : decode cX11_init 141 = .ok (.putfield 83, 3) := by decide +kernel
theorem dX11_init_144 : decode cX11_init 144 = .ok (.iconst 0, 1) := by decide +kernel
theorem dX11_init_145 : decode cX11_init 145 = .ok (.istore 5, 2) := by decide +kernel
theorem dX11_init_147 : decode cX11_init 147 = .ok (.iload 5, 2) := by decide +kernel
theorem dX11_init_149 : decode cX11_init 149 = .ok (.iconst 2, 1) := by decide +kernel
theorem dX11_init_150 : decode cX11_init 150 = .ok (.if_icmp .ge 23, 3) := by decide +kernel
theorem dX11_init_153 : decode cX11_init 153 = .ok (.aload_n 0, 1) := by decide +kernel
theorem dX11_init_154 : decode cX11_init 154 = .ok (.getfield 83, 3) := by decide +kernel
theorem dX11_init_157 : decode cX11_init 157 = .ok (.iload 5, 2) := by decide +kernel
theorem dX11_init_159 : decode cX11_init 159 = .ok (.new 81, 3) := by decide +kernel
theorem dX11_init_162 : decode cX11_init 162 = .ok (.dup, 1) := by decide +kernel
theorem dX11_init_163 : decode cX11_init 163 = .ok (.invokespecial 87, 3) := by decide +kernel
theorem dX11_init_166 : decode cX11_init 166 = .ok (.aastore, 1) := by decide +kernel
theorem dX11_init_167 : decode cX11_init 167 = .ok (.iinc 5 1, 3) := by decide +kernel
theorem dX11_init_170 : decode cX11_init 170 = .ok (.goto (-23), 3) := by decide +kernel
theorem dX11_init_173 : decode cX11_init 173 = .ok (.aload_n 0, 1) := by decide +kernel
theorem dX11_init_174 : decode cX11_init 174 = .ok (.iconst 2, 1) := by decide +kernel
theorem dX11_init_175 : decode cX11_init 175 = .ok (.newarray .boolean, 2) := by decide +kernel
theorem dX11_init_177 : decode cX11_init 177 = .ok (.putfield 88, 3) := by decide +kernel
theorem dX11_init_180 : decode cX11_init 180 = .ok (.aload_n 0, 1) := by decide +kernel
theorem dX11_init_181 : decode cX11_init 181 = .ok (.new 24, 3) := by decide +kernel
theorem dX11_init_184 : decode cX11_init 184 = .ok (.dup, 1) := by decide +kernel
theorem dX11_init_185 : decode cX11_init 185 = .ok (.invokespecial 26, 3) := by decide +kernel
theorem dX11_init_188 : decode cX11_init 188 = .ok (.putfield 92, 3) := by decide +kernel
theorem dX11_init_191 : decode cX11_init 191 = .ok (.return_, 1) := by decide +kernel
set_option maxRecDepth 20000 in
theorem ggX11_append_X9_addFourBytes : GoodIn wsX11_append wsX9_addFourBytes := goodIn_r _ [8, 9, 10, 11, 7, 12, 13, 14, 26, 27] rfl (by decide +kernel)
set_option maxRecDepth 20000 in
theorem gX11_append_X9_addFourBytes : GoodIn wsX11_append (wsV RX11 102 RX9 yX9_addFourBytes wsX9_addFourBytes) := goodIn_app (goodIn_of _ (by decide +kernel)) ggX11_append_X9_addFourBytes
theorem dX11_append_0 : decode cX11_append 0 = .ok (.aload_n 0, 1) := by decide +kernel
theorem dX11_append_1 : decode cX11_append 1 = .ok (.getfield 41, 3) := by decide +kernel
theorem dX11_append_4 : decode cX11_append 4 = .ok (.getfield 37, 3) := by decide +kernel
theorem dX11_append_7 : decode cX11_append 7 = .ok (.sipush 680, 3) := by decide +kernel
theorem dX11_append_10 : decode cX11_append 10 = .ok (.if_icmp .le 13, 3) := by decide +kernel
theorem dX11_append_13 : decode cX11_append 13 = .ok (.new 96, 3) := by decide +kernel
theorem dX11_append_16 : decode cX11_append 16 = .ok (.dup, 1) := by decide +kernel
theorem dX11_append_17 : decode cX11_append 17 = .ok (.ldc 98, 2) := by decide +kernel
theorem dX11_append_19 : decode cX11_append 19 = .ok (.invokespecial 100, 3) := by decide +kernel
theorem dX11_append_22 : decode cX11_append 22 = .ok (.athrow, 1) := by decide +kernel
theorem dX11_append_23 : decode cX11_append 23 = .ok (.aload_n 0, 1) := by decide +kernel
theorem dX11_append_24 : decode cX11_append 24 = .ok (.getfield 41, 3) := by decide +kernel
theorem dX11_append_27 : decode cX11_append 27 = .ok (.iload_n 1, 1) := by decide +kernel
theorem dX11_append_28 : decode cX11_append 28 = .ok (.invokevirtual 102, 3) := by decide +kernel
theorem dX11_append_31 : decode cX11_append 31 = .ok (.aload_n 0, 1) := by decide +kernel
theorem dX11_append_32 : decode cX11_append 32 = .ok (.getfield 41, 3) := by decide +kernel
theorem dX11_append_35 : decode cX11_append 35 = .ok (.iload_n 2, 1) := by decide +kernel
theorem dX11_append_36 : decode cX11_append 36 = .ok (.invokevirtual 102, 3) := by decide +kernel
theorem dX11_append_39 : decode cX11_append 39 = .ok (.aload_n 0, 1) := by decide +kernel
theorem dX11_append_40 : decode cX11_append 40 = .ok (.getfield 41, 3) := by decide +kernel
theorem dX11_append_43 : decode cX11_append 43 = .ok (.iload_n 3, 1) := by decide +kernel
theorem dX11_append_44 : decode cX11_append 44 = .ok (.invokevirtual 102, 3) := by decide +kernel
theorem dX11_append_47 : decode cX11_append 47 = .ok (.aload_n 0, 1) := by decide +kernel
theorem dX11_append_48 : decode cX11_append 48 = .ok (.getfield 41, 3) := by decide +kernel
theorem dX11_append_51 : decode cX11_append 51 = .ok (.iload 4, 2) := by decide +kernel
theorem dX11_append_53 : decode cX11_append 53 = .ok (.invokevirtual 102, 3) := by decide +kernel
theorem dX11_append_56 : decode cX11_append 56 = .ok (.aload_n 0, 1) := by decide +kernel
theorem dX11_append_57 : decode cX11_append 57 = .ok (.getfield 41, 3) := by decide +kernel
theorem dX11_append_60 : decode cX11_append 60 = .ok (.iload 5, 2) := by decide +kernel
theorem dX11_append_62 : decode cX11_append 62 = .ok (.invokevirtual 102, 3) := by decide +kernel
theorem dX11_append_65 : decode cX11_append 65 = .ok (.aload_n 0, 1) := by decide +kernel
theorem dX11_append_66 : decode cX11_append 66 = .ok (.getfield 41, 3) := by decide +kernel
theorem dX11_append_69 : decode cX11_append 69 = .ok (.getfield 37, 3) := by decide +kernel
theorem dX11_append_72 : decode cX11_append 72 = .ok (.ireturn, 1) := by decide +kernel
set_option maxRecDepth 20000 in
theorem ggX11_truncate_X11_isWithin : GoodIn wsX11_truncate wsX11_isWithin := goodIn_r _ [7] rfl (by decide +kernel)
set_option maxRecDepth 20000 in
theorem gX11_truncate_X11_isWithin : GoodIn wsX11_truncate (va_wsS RX11 105 yX11_isWithin wsX11_isWithin) := goodIn_app (goodIn_of _ (by decide +kernel)) ggX11_truncate_X11_isWithin
theorem dX11_truncate_0 : decode cX11_truncate 0 = .ok (.iload_n 1, 1) := by decide +kernel
theorem dX11_truncate_1 : decode cX11_truncate 1 = .ok (.iconst 0, 1) := by decide +kernel
theorem dX11_truncate_2 : decode cX11_truncate 2 = .ok (.aload_n 0, 1) := by decide +kernel
theorem dX11_truncate_3 : decode cX11_truncate 3 = .ok (.getfield 41, 3) := by decide +kernel
theorem dX11_truncate_6 : decode cX11_truncate 6 = .ok (.getfield 37, 3) := by decide +kernel
theorem dX11_truncate_9 : decode cX11_truncate 9 = .ok (.invokestatic 105, 3) := by decide +kernel
theorem dX11_truncate_12 : decode cX11_truncate 12 = .ok (.ifCond .ne 13, 3) := by decide +kernel
theorem dX11_truncate_15 : decode cX11_truncate 15 = .ok (.new 109, 3) := by decide +kernel
theorem dX11_truncate_18 : decode cX11_truncate 18 = .ok (.dup, 1) := by decide +kernel
theorem dX11_truncate_19 : decode cX11_truncate 19 = .ok (.ldc 111, 2) := by decide +kernel
theorem dX11_truncate_21 : decode cX11_truncate 21 = .ok (.invokespecial 113, 3) := by decide +kernel
theorem dX11_truncate_24 : decode cX11_truncate 24 = .ok (.athrow, 1) := by decide +kernel
theorem dX11_truncate_25 : decode cX11_truncate 25 = .ok (.aload_n 0, 1) := by decide +kernel
theorem dX11_truncate_26 : decode cX11_truncate 26 = .ok (.getfield 41, 3) := by decide +kernel
theorem dX11_truncate_29 : decode cX11_truncate 29 = .ok (.iload_n 1, 1) := by decide +kernel
theorem dX11_truncate_30 : decode cX11_truncate 30 = .ok (.putfield 37, 3) := by decide +kernel
theorem dX11_truncate_33 : decode cX11_truncate 33 = .ok (.iload_n 1, 1) := by decide +kernel
theorem dX11_truncate_34 : decode cX11_truncate 34 = .ok (.ireturn, 1) := by decide +kernel
set_option maxRecDepth 20000 in
theorem ggX11_load_X7_readInto : GoodIn wsX11_load wsX7_readInto := goodIn_r _ [11, 12, 13, 14, 15, 16, 17, 18, 19, 20, 21, 22, 23, 24, 25, 26, 27, 28, 29, 30, 31, 32, 33, 34, 35, 36, 37, 38, 39, 40, 41, 42, 43, 44, 45, 46, 47, 48, 49, 50, 51, 52, 53, 54, 55, 56, 57, 10, 58, 59, 60, 61, 62, 63, 64, 65, 66, 67, 68, 69, 70, 71, 72, 73, 74, 75, 76, 77, 78, 79, 80, 81, 82, 83, 84, 85, 86, 87, 88, 89, 90, 91, 92, 93, 94, 95, 96, 97, 98, 99, 100, 101, 102, 103, 104, 105, 106, 107, 108, 109, 110, 111, 112, 113, 114, 115, 116, 117, 118, 119, 120, 121, 122, 123, 124, 125, 126, 127, 128, 129, 130, 131, 132, 133, 134, 135, 136, 137, 138, 139, 140, 141, 142, 143, 144, 145, 146, 147, 148, 149, 150, 151, 152, 153, 154, 155, 156, 157, 158, 159, 160, 161, 162, 163, 164, 165, 166, 167, 168, 169, 170, 171, 172, 173, 174, 175, 176, 177, 178, 179, 180, 181, 182, 183, 184, 185, 186, 187, 188, 189, 190, 271, 251, 252, 253, 254, 255, 256, 257, 258, 259, 260, 261, 262, 263, 264, 265, 266, 267, 268, 269, 270, 272, 273, 274, 275, 276, 277, 241, 242] rfl (by decide +kernel)
set_option maxRecDepth 20000 in
theorem gX11_load_X7_readInto : GoodIn wsX11_load (wsV RX11 33 RX7 yX7_readInto wsX7_readInto) := goodIn_app (goodIn_of _ (by decide +kernel)) ggX11_load_X7_readInto
set_option maxRecDepth 20000 in
theorem ggX11_load_X11_requireNoError : GoodIn wsX11_load wsX11_requireNoError := goodIn_ca (goodIn_r _ [194, 195, 196, 197, 230, 231, 232, 233, 234, 235, 236, 237, 238, 239, 240, 272, 273, 274, 275, 276, 277] rfl (by decide +kernel)) (goodIn_sub (fun _ h => List.mem_cons_of_mem _ (List.mem_append_right _ h)) (by decide +kernel))
set_option maxRecDepth 20000 in
theorem gX11_load_X11_requireNoError : GoodIn wsX11_load (wsV RX11 114 RX11 yX11_requireNoError wsX11_requireNoError) := goodIn_app (goodIn_of _ (by decide +kernel)) ggX11_load_X11_requireNoError
set_option maxRecDepth 20000 in
theorem ggX11_load_X3_open : GoodIn wsX11_load wsX3_open := goodIn_r _ [202, 203, 204, 205, 206, 207, 208, 209, 210, 211, 212, 213, 214, 215, 216, 217, 218, 219, 220, 221, 222, 223, 224, 225, 226, 227, 228, 229, 27, 28, 29, 243, 244, 245, 246, 247, 251, 252, 253, 254, 255, 256, 257, 258, 259, 260, 261, 262, 263, 264, 265, 266, 267, 278, 279, 280, 281, 282, 283, 284, 285, 286, 287, 288, 289, 290, 291, 292] rfl (by decide +kernel)
set_option maxRecDepth 20000 in
theorem gX11_load_X3_open : GoodIn wsX11_load (wsV RX11 120 RX3 yX3_open wsX3_open) := goodIn_app (goodIn_of _ (by decide +kernel)) ggX11_load_X3_open
theorem dX11_load_0 : decode cX11_load 0 = .ok (.aload_n 0, 1) := by decide +kernel
theorem dX11_load_1 : decode cX11_load 1 = .ok (.getfield 52, 3) := by decide +kernel
theorem dX11_load_4 : decode cX11_load 4 = .ok (.aload_n 0, 1) := by decide +kernel
theorem dX11_load_5 : decode cX11_load 5 = .ok (.getfield 92, 3) := by decide +kernel
theorem dX11_load_8 : decode cX11_load 8 = .ok (.invokevirtual 33, 3) := by decide +kernel
theorem dX11_load_11 : decode cX11_load 11 = .ok (.aload_n 0, 1) := by decide +kernel
theorem dX11_load_12 : decode cX11_load 12 = .ok (.getfield 41, 3) := by decide +kernel
theorem dX11_load_15 : decode cX11_load 15 = .ok (.iconst 0, 1) := by decide +kernel
theorem dX11_load_16 : decode cX11_load 16 = .ok (.putfield 37, 3) := by decide +kernel
theorem dX11_load_19 : decode cX11_load 19 = .ok (.aload_n 0, 1) := by decide +kernel
theorem dX11_load_20 : decode cX11_load 20 = .ok (.invokevirtual 114, 3) := by decide +kernel
theorem dX11_load_23 : decode cX11_load 23 = .ok (.aload_n 0, 1) := by decide +kernel
theorem dX11_load_24 : decode cX11_load 24 = .ok (.getfield 67, 3) := by decide +kernel
theorem dX11_load_27 : decode cX11_load 27 = .ok (.getfield 117, 3) := by decide +kernel
theorem dX11_load_30 : decode cX11_load 30 = .ok (.astore_n 1, 1) := by decide +kernel
theorem dX11_load_31 : decode cX11_load 31 = .ok (.aload_n 0, 1) := by decide +kernel
theorem dX11_load_32 : decode cX11_load 32 = .ok (.getfield 67, 3) := by decide +kernel
theorem dX11_load_35 : decode cX11_load 35 = .ok (.aload_n 0, 1) := by decide +kernel
theorem dX11_load_36 : decode cX11_load 36 = .ok (.getfield 92, 3) := by decide +kernel
theorem dX11_load_39 : decode cX11_load 39 = .ok (.invokevirtual 120, 3) := by decide +kernel
theorem dX11_load_42 : decode cX11_load 42 = .ok (.aload_n 0, 1) := by decide +kernel
theorem dX11_load_43 : decode cX11_load 43 = .ok (.aload_n 1, 1) := by decide +kernel
theorem dX11_load_44 : decode cX11_load 44 = .ok (.putfield 92, 3) := by decide +kernel
theorem dX11_load_47 : decode cX11_load 47 = .ok (.iconst 0, 1) := by decide +kernel
theorem dX11_load_48 : decode cX11_load 48 = .ok (.istore_n 2, 1) := by decide +kernel
theorem dX11_load_49 : decode cX11_load 49 = .ok (.iload_n 2, 1) := by decide +kernel
theorem dX11_load_50 : decode cX11_load 50 = .ok (.iconst 2, 1) := by decide +kernel
theorem dX11_load_51 : decode cX11_load 51 = .ok (.if_icmp .ge 16, 3) := by decide +kernel
theorem dX11_load_54 : decode cX11_load 54 = .ok (.aload_n 0, 1) := by decide +kernel
theorem dX11_load_55 : decode cX11_load 55 = .ok (.getfield 88, 3) := by decide +kernel
theorem dX11_load_58 : decode cX11_load 58 = .ok (.iload_n 2, 1) := by decide +kernel
theorem dX11_load_59 : decode cX11_load 59 = .ok (.iconst 0, 1) := by decide +kernel
theorem dX11_load_60 : decode cX11_load 60 = .ok (.bastore, 1) := by decide +kernel
theorem dX11_load_61 : decode cX11_load 61 = .ok (.iinc 2 1, 3) := by decide +kernel
theorem dX11_load_64 : decode cX11_load 64 = .ok (.goto (-15), 3) := by decide +kernel
theorem dX11_load_67 : decode cX11_load 67 = .ok (.aload_n 0, 1) := by decide +kernel
theorem dX11_load_68 : decode cX11_load 68 = .ok (.getfield 77, 3) := by decide +kernel
theorem dX11_load_71 : decode cX11_load 71 = .ok (.iconst 0, 1) := by decide +kernel
theorem dX11_load_72 : decode cX11_load 72 = .ok (.putfield 123, 3) := by decide +kernel
theorem dX11_load_75 : decode cX11_load 75 = .ok (.aload_n 0, 1) := by decide +kernel
theorem dX11_load_76 : decode cX11_load 76 = .ok (.getfield 67, 3) := by decide +kernel
theorem dX11_load_79 : decode cX11_load 79 = .ok (.getfield 117, 3) := by decide +kernel
theorem dX11_load_82 : decode cX11_load 82 = .ok (.getfield 126, 3) := by decide +kernel
theorem dX11_load_85 : decode cX11_load 85 = .ok (.getfield 130, 3) := by decide +kernel
theorem dX11_load_88 : decode cX11_load 88 = .ok (.ireturn, 1) := by decide +kernel
theorem dX11_errorCode_0 : decode cX11_errorCode 0 = .ok (.aload_n 0, 1) := by decide +kernel
theorem dX11_errorCode_1 : decode cX11_errorCode 1 = .ok (.getfield 48, 3) := by decide +kernel
theorem dX11_errorCode_4 : decode cX11_errorCode 4 = .ok (.getfield 133, 3) := by decide +kernel
theorem dX11_errorCode_7 : decode cX11_errorCode 7 = .ok (.ireturn, 1) := by decide +kernel
theorem dX11_errorPosition_0 : decode cX11_errorPosition 0 = .ok (.aload_n 0, 1) := by decide +kernel
theorem dX11_errorPosition_1 : decode cX11_errorPosition 1 = .ok (.getfield 48, 3) := by decide +kernel
theorem dX11_errorPosition_4 : decode cX11_errorPosition 4 = .ok (.getfield 136, 3) := by decide +kernel
theorem dX11_errorPosition_7 : decode cX11_errorPosition 7 = .ok (.ireturn, 1) := by decide +kernel
theorem dX11_stepCount_0 : decode cX11_stepCount 0 = .ok (.aload_n 0, 1) := by decide +kernel
theorem dX11_stepCount_1 : decode cX11_stepCount 1 = .ok (.getfield 67, 3) := by decide +kernel
theorem dX11_stepCount_4 : decode cX11_stepCount 4 = .ok (.getfield 117, 3) := by decide +kernel
theorem dX11_stepCount_7 : decode cX11_stepCount 7 = .ok (.getfield 126, 3) := by decide +kernel
theorem dX11_stepCount_10 : decode cX11_stepCount 10 = .ok (.getfield 130, 3) := by decide +kernel
theorem dX11_stepCount_13 : decode cX11_stepCount 13 = .ok (.ireturn, 1) := by decide +kernel
theorem dX11_cooks_0 : decode cX11_cooks 0 = .ok (.aload_n 0, 1) := by decide +kernel
theorem dX11_cooks_1 : decode cX11_cooks 1 = .ok (.getfield 67, 3) := by decide +kernel
theorem dX11_cooks_4 : decode cX11_cooks 4 = .ok (.getfield 139, 3) := by decide +kernel
theorem dX11_cooks_7 : decode cX11_cooks 7 = .ok (.getfield 143, 3) := by decide +kernel
theorem dX11_cooks_10 : decode cX11_cooks 10 = .ok (.ireturn, 1) := by decide +kernel
theorem dX11_minute_0 : decode cX11_minute 0 = .ok (.aload_n 0, 1) := by decide +kernel
theorem dX11_minute_1 : decode cX11_minute 1 = .ok (.getfield 67, 3) := by decide +kernel
theorem dX11_minute_4 : decode cX11_minute 4 = .ok (.getfield 139, 3) := by decide +kernel
theorem dX11_minute_7 : decode cX11_minute 7 = .ok (.getfield 146, 3) := by decide +kernel
theorem dX11_minute_10 : decode cX11_minute 10 = .ok (.ireturn, 1) := by decide +kernel
theorem dX11_salt_0 : decode cX11_salt 0 = .ok (.aload_n 0, 1) := by decide +kernel
theorem dX11_salt_1 : decode cX11_salt 1 = .ok (.getfield 67, 3) := by decide +kernel
theorem dX11_salt_4 : decode cX11_salt 4 = .ok (.getfield 139, 3) := by decide +kernel
theorem dX11_salt_7 : decode cX11_salt 7 = .ok (.getfield 149, 3) := by decide +kernel
theorem dX11_salt_10 : decode cX11_salt 10 = .ok (.ireturn, 1) := by decide +kernel
set_option maxRecDepth 20000 in
theorem ggX11_taste_X3_dishTaste : GoodIn wsX11_taste wsX3_dishTaste := goodIn_r _ [6, 7, 8, 9, 10, 11, 23, 24, 25, 26, 27, 28, 29, 30, 31, 32, 33, 34, 35, 36, 37, 38, 39, 40, 41, 42, 43, 44, 45, 46, 47, 48, 49, 50, 51, 52, 53, 54, 55, 56, 57, 58, 59, 60, 61, 62] rfl (by decide +kernel)
set_option maxRecDepth 20000 in
theorem gX11_taste_X3_dishTaste : GoodIn wsX11_taste (wsV RX11 152 RX3 yX3_dishTaste wsX3_dishTaste) := goodIn_app (goodIn_of _ (by decide +kernel)) ggX11_taste_X3_dishTaste
theorem dX11_taste_0 : decode cX11_taste 0 = .ok (.aload_n 0, 1) := by decide +kernel
theorem dX11_taste_1 : decode cX11_taste 1 = .ok (.getfield 67, 3) := by decide +kernel
theorem dX11_taste_4 : decode cX11_taste 4 = .ok (.invokevirtual 152, 3) := by decide +kernel
theorem dX11_taste_7 : decode cX11_taste 7 = .ok (.ireturn, 1) := by decide +kernel
set_option maxRecDepth 20000 in
theorem ggX11_countWithStatus_X11_isWithin : GoodIn wsX11_countWithStatus wsX11_isWithin := goodIn_r _ [7] rfl (by decide +kernel)
set_option maxRecDepth 20000 in
theorem gX11_countWithStatus_X11_isWithin : GoodIn wsX11_countWithStatus (va_wsS RX11 105 yX11_isWithin wsX11_isWithin) := goodIn_app (goodIn_of _ (by decide +kernel)) ggX11_countWithStatus_X11_isWithin
set_option maxRecDepth 20000 in
theorem ggX11_countWithStatus_X8_statusOf : GoodIn wsX11_countWithStatus wsX8_statusOf := goodIn_r _ [12, 13, 14, 15, 16, 6, 17, 54, 55, 56, 57, 58, 59, 60, 61, 62, 63, 64, 65, 66, 67, 68] rfl (by decide +kernel)
set_option maxRecDepth 20000 in
theorem gX11_countWithStatus_X8_statusOf : GoodIn wsX11_countWithStatus (wsV RX11 158 RX8 yX8_statusOf wsX8_statusOf) := goodIn_app (goodIn_of _ (by decide +kernel)) ggX11_countWithStatus_X8_statusOf
theorem dX11_countWithStatus_0 : decode cX11_countWithStatus 0 = .ok (.iload_n 1, 1) := by decide +kernel
theorem dX11_countWithStatus_1 : decode cX11_countWithStatus 1 = .ok (.iconst 0, 1) := by decide +kernel
theorem dX11_countWithStatus_2 : decode cX11_countWithStatus 2 = .ok (.iconst 3, 1) := by decide +kernel
theorem dX11_countWithStatus_3 : decode cX11_countWithStatus 3 = .ok (.invokestatic 105, 3) := by decide +kernel
theorem dX11_countWithStatus_6 : decode cX11_countWithStatus 6 = .ok (.ifCond .ne 13, 3) := by decide +kernel
theorem dX11_countWithStatus_9 : decode cX11_countWithStatus 9 = .ok (.new 109, 3) := by decide +kernel
theorem dX11_countWithStatus_12 : decode cX11_countWithStatus 12 = .ok (.dup, 1) := by decide +kernel
theorem dX11_countWithStatus_13 : decode cX11_countWithStatus 13 = .ok (.ldc 156, 2) := by decide +kernel
theorem dX11_countWithStatus_15 : decode cX11_countWithStatus 15 = .ok (.invokespecial 113, 3) := by decide +kernel
theorem dX11_countWithStatus_18 : decode cX11_countWithStatus 18 = .ok (.athrow, 1) := by decide +kernel
theorem dX11_countWithStatus_19 : decode cX11_countWithStatus 19 = .ok (.iconst 0, 1) := by decide +kernel
theorem dX11_countWithStatus_20 : decode cX11_countWithStatus 20 = .ok (.istore_n 2, 1) := by decide +kernel
theorem dX11_countWithStatus_21 : decode cX11_countWithStatus 21 = .ok (.iconst 0, 1) := by decide +kernel
theorem dX11_countWithStatus_22 : decode cX11_countWithStatus 22 = .ok (.istore_n 3, 1) := by decide +kernel
theorem dX11_countWithStatus_23 : decode cX11_countWithStatus 23 = .ok (.iload_n 3, 1) := by decide +kernel
theorem dX11_countWithStatus_24 : decode cX11_countWithStatus 24 = .ok (.aload_n 0, 1) := by decide +kernel
theorem dX11_countWithStatus_25 : decode cX11_countWithStatus 25 = .ok (.getfield 67, 3) := by decide +kernel
theorem dX11_countWithStatus_28 : decode cX11_countWithStatus 28 = .ok (.getfield 117, 3) := by decide +kernel
theorem dX11_countWithStatus_31 : decode cX11_countWithStatus 31 = .ok (.getfield 126, 3) := by decide +kernel
theorem dX11_countWithStatus_34 : decode cX11_countWithStatus 34 = .ok (.getfield 130, 3) := by decide +kernel
theorem dX11_countWithStatus_37 : decode cX11_countWithStatus 37 = .ok (.if_icmp .ge 27, 3) := by decide +kernel
theorem dX11_countWithStatus_40 : decode cX11_countWithStatus 40 = .ok (.aload_n 0, 1) := by decide +kernel
theorem dX11_countWithStatus_41 : decode cX11_countWithStatus 41 = .ok (.getfield 67, 3) := by decide +kernel
theorem dX11_countWithStatus_44 : decode cX11_countWithStatus 44 = .ok (.getfield 139, 3) := by decide +kernel
theorem dX11_countWithStatus_47 : decode cX11_countWithStatus 47 = .ok (.iload_n 3, 1) := by decide +kernel
theorem dX11_countWithStatus_48 : decode cX11_countWithStatus 48 = .ok (.invokevirtual 158, 3) := by decide +kernel
theorem dX11_countWithStatus_51 : decode cX11_countWithStatus 51 = .ok (.iload_n 1, 1) := by decide +kernel
theorem dX11_countWithStatus_52 : decode cX11_countWithStatus 52 = .ok (.if_icmp .ne 6, 3) := by decide +kernel
theorem dX11_countWithStatus_55 : decode cX11_countWithStatus 55 = .ok (.iinc 2 1, 3) := by decide +kernel
theorem dX11_countWithStatus_58 : decode cX11_countWithStatus 58 = .ok (.iinc 3 1, 3) := by decide +kernel
theorem dX11_countWithStatus_61 : decode cX11_countWithStatus 61 = .ok (.goto (-38), 3) := by decide +kernel
theorem dX11_countWithStatus_64 : decode cX11_countWithStatus 64 = .ok (.iload_n 2, 1) := by decide +kernel
theorem dX11_countWithStatus_65 : decode cX11_countWithStatus 65 = .ok (.ireturn, 1) := by decide +kernel
set_option maxRecDepth 20000 in
theorem ggX11_starts_X11_sum : GoodIn wsX11_starts wsX11_sum := goodIn_r _ [5] rfl (by decide +kernel)
set_option maxRecDepth 20000 in
theorem gX11_starts_X11_sum : GoodIn wsX11_starts (va_wsS RX11 166 yX11_sum wsX11_sum) := goodIn_app (goodIn_of _ (by decide +kernel)) ggX11_starts_X11_sum
theorem dX11_starts_0 : decode cX11_starts 0 = .ok (.aload_n 0, 1) := by decide +kernel
theorem dX11_starts_1 : decode cX11_starts 1 = .ok (.getfield 67, 3) := by decide +kernel
theorem dX11_starts_4 : decode cX11_starts 4 = .ok (.getfield 139, 3) := by decide +kernel
theorem dX11_starts_7 : decode cX11_starts 7 = .ok (.getfield 162, 3) := by decide +kernel
theorem dX11_starts_10 : decode cX11_starts 10 = .ok (.aload_n 0, 1) := by decide +kernel
theorem dX11_starts_11 : decode cX11_starts 11 = .ok (.getfield 67, 3) := by decide +kernel
theorem dX11_starts_14 : decode cX11_starts 14 = .ok (.getfield 117, 3) := by decide +kernel
theorem dX11_starts_17 : decode cX11_starts 17 = .ok (.getfield 126, 3) := by decide +kernel
theorem dX11_starts_20 : decode cX11_starts 20 = .ok (.getfield 130, 3) := by decide +kernel
theorem dX11_starts_23 : decode cX11_starts 23 = .ok (.invokestatic 166, 3) := by decide +kernel
theorem dX11_starts_26 : decode cX11_starts 26 = .ok (.ireturn, 1) := by decide +kernel
set_option maxRecDepth 20000 in
theorem ggX11_completions_X11_sum : GoodIn wsX11_completions wsX11_sum := goodIn_r _ [5] rfl (by decide +kernel)
set_option maxRecDepth 20000 in
theorem gX11_completions_X11_sum : GoodIn wsX11_completions (va_wsS RX11 166 yX11_sum wsX11_sum) := goodIn_app (goodIn_of _ (by decide +kernel)) ggX11_completions_X11_sum
theorem dX11_completions_0 : decode cX11_completions 0 = .ok (.aload_n 0, 1) := by decide +kernel
theorem dX11_completions_1 : decode cX11_completions 1 = .ok (.getfield 67, 3) := by decide +kernel
theorem dX11_completions_4 : decode cX11_completions 4 = .ok (.getfield 139, 3) := by decide +kernel
theorem dX11_completions_7 : decode cX11_completions 7 = .ok (.getfield 170, 3) := by decide +kernel
theorem dX11_completions_10 : decode cX11_completions 10 = .ok (.aload_n 0, 1) := by decide +kernel
theorem dX11_completions_11 : decode cX11_completions 11 = .ok (.getfield 67, 3) := by decide +kernel
theorem dX11_completions_14 : decode cX11_completions 14 = .ok (.getfield 117, 3) := by decide +kernel
theorem dX11_completions_17 : decode cX11_completions 17 = .ok (.getfield 126, 3) := by decide +kernel
theorem dX11_completions_20 : decode cX11_completions 20 = .ok (.getfield 130, 3) := by decide +kernel
theorem dX11_completions_23 : decode cX11_completions 23 = .ok (.invokestatic 166, 3) := by decide +kernel
theorem dX11_completions_26 : decode cX11_completions 26 = .ok (.ireturn, 1) := by decide +kernel
set_option maxRecDepth 20000 in
theorem ggX11_burns_X11_sum : GoodIn wsX11_burns wsX11_sum := goodIn_r _ [5] rfl (by decide +kernel)
set_option maxRecDepth 20000 in
theorem gX11_burns_X11_sum : GoodIn wsX11_burns (va_wsS RX11 166 yX11_sum wsX11_sum) := goodIn_app (goodIn_of _ (by decide +kernel)) ggX11_burns_X11_sum
theorem dX11_burns_0 : decode cX11_burns 0 = .ok (.aload_n 0, 1) := by decide +kernel
theorem dX11_burns_1 : decode cX11_burns 1 = .ok (.getfield 67, 3) := by decide +kernel
theorem dX11_burns_4 : decode cX11_burns 4 = .ok (.getfield 139, 3) := by decide +kernel
theorem dX11_burns_7 : decode cX11_burns 7 = .ok (.getfield 173, 3) := by decide +kernel
theorem dX11_burns_10 : decode cX11_burns 10 = .ok (.aload_n 0, 1) := by decide +kernel
theorem dX11_burns_11 : decode cX11_burns 11 = .ok (.getfield 67, 3) := by decide +kernel
theorem dX11_burns_14 : decode cX11_burns 14 = .ok (.getfield 117, 3) := by decide +kernel
theorem dX11_burns_17 : decode cX11_burns 17 = .ok (.getfield 126, 3) := by decide +kernel
theorem dX11_burns_20 : decode cX11_burns 20 = .ok (.getfield 130, 3) := by decide +kernel
theorem dX11_burns_23 : decode cX11_burns 23 = .ok (.invokestatic 166, 3) := by decide +kernel
theorem dX11_burns_26 : decode cX11_burns 26 = .ok (.ireturn, 1) := by decide +kernel
theorem dX11_cookMinutes_0 : decode cX11_cookMinutes 0 = .ok (.aload_n 0, 1) := by decide +kernel
theorem dX11_cookMinutes_1 : decode cX11_cookMinutes 1 = .ok (.getfield 67, 3) := by decide +kernel
theorem dX11_cookMinutes_4 : decode cX11_cookMinutes 4 = .ok (.getfield 139, 3) := by decide +kernel
theorem dX11_cookMinutes_7 : decode cX11_cookMinutes 7 = .ok (.getfield 176, 3) := by decide +kernel
theorem dX11_cookMinutes_10 : decode cX11_cookMinutes 10 = .ok (.ireturn, 1) := by decide +kernel
set_option maxRecDepth 20000 in
theorem ggX11_panCapacity_X11_requirePan : GoodIn wsX11_panCapacity wsX11_requirePan := goodIn_ca (goodIn_r _ [6, 7, 8, 1, 9, 10, 5, 11, 12, 13, 14, 15, 16, 17, 18, 19, 20, 21, 22, 23, 24, 25, 26, 27, 28, 29, 30, 31, 32, 33, 34, 35, 36, 37, 38, 39, 40, 41, 42, 43, 44, 45, 46, 47] rfl (by decide +kernel)) (goodIn_sub (fun _ h => List.mem_cons_of_mem _ (List.mem_append_right _ h)) (by decide +kernel))
set_option maxRecDepth 20000 in
theorem gX11_panCapacity_X11_requirePan : GoodIn wsX11_panCapacity (wsV RX11 179 RX11 yX11_requirePan wsX11_requirePan) := goodIn_app (goodIn_of _ (by decide +kernel)) ggX11_panCapacity_X11_requirePan
theorem dX11_panCapacity_0 : decode cX11_panCapacity 0 = .ok (.aload_n 0, 1) := by decide +kernel
theorem dX11_panCapacity_1 : decode cX11_panCapacity 1 = .ok (.iload_n 1, 1) := by decide +kernel
theorem dX11_panCapacity_2 : decode cX11_panCapacity 2 = .ok (.invokevirtual 179, 3) := by decide +kernel
theorem dX11_panCapacity_5 : decode cX11_panCapacity 5 = .ok (.aload_n 0, 1) := by decide +kernel
theorem dX11_panCapacity_6 : decode cX11_panCapacity 6 = .ok (.getfield 67, 3) := by decide +kernel
theorem dX11_panCapacity_9 : decode cX11_panCapacity 9 = .ok (.getfield 117, 3) := by decide +kernel
theorem dX11_panCapacity_12 : decode cX11_panCapacity 12 = .ok (.getfield 182, 3) := by decide +kernel
theorem dX11_panCapacity_15 : decode cX11_panCapacity 15 = .ok (.iload_n 1, 1) := by decide +kernel
theorem dX11_panCapacity_16 : decode cX11_panCapacity 16 = .ok (.iaload, 1) := by decide +kernel
theorem dX11_panCapacity_17 : decode cX11_panCapacity 17 = .ok (.ireturn, 1) := by decide +kernel
set_option maxRecDepth 20000 in
theorem ggX11_pansInUse_X11_requirePan : GoodIn wsX11_pansInUse wsX11_requirePan := goodIn_ca (goodIn_r _ [6, 7, 8, 1, 9, 10, 5, 11, 26, 27, 28, 29, 30, 31, 32, 33, 34, 35, 36, 37, 38, 39, 40, 41, 42, 43, 44, 45, 46, 47, 48, 49, 50, 51, 52, 53, 54, 55, 56, 57, 58, 59, 60, 61] rfl (by decide +kernel)) (goodIn_sub (fun _ h => List.mem_cons_of_mem _ (List.mem_append_right _ h)) (by decide +kernel))
set_option maxRecDepth 20000 in
theorem gX11_pansInUse_X11_requirePan : GoodIn wsX11_pansInUse (wsV RX11 179 RX11 yX11_requirePan wsX11_requirePan) := goodIn_app (goodIn_of _ (by decide +kernel)) ggX11_pansInUse_X11_requirePan
set_option maxRecDepth 20000 in
theorem ggX11_pansInUse_X3_occupants : GoodIn wsX11_pansInUse wsX3_occupants := goodIn_r _ [16, 17, 18, 37, 38, 39, 40, 41, 42, 43, 44, 45, 46, 47, 48, 49, 50, 51, 52, 53, 54, 55, 56, 57, 58, 62, 63, 64, 65, 66, 67, 68, 69, 70, 71, 72, 73, 74, 75, 76, 59, 60, 61] rfl (by decide +kernel)
set_option maxRecDepth 20000 in
theorem gX11_pansInUse_X3_occupants : GoodIn wsX11_pansInUse (wsV RX11 185 RX3 yX3_occupants wsX3_occupants) := goodIn_app (goodIn_of _ (by decide +kernel)) ggX11_pansInUse_X3_occupants
set_option maxRecDepth 20000 in
theorem ggX11_pansInUse_J6_bitCount_0f7a4 : GoodIn wsX11_pansInUse wsJ6_bitCount_0f7a4 := goodIn_r _ [22, 23, 24, 25] rfl (by decide +kernel)
set_option maxRecDepth 20000 in
theorem gX11_pansInUse_J6_bitCount_0f7a4 : GoodIn wsX11_pansInUse (va_wsS RX11 188 yJ6_bitCount_0f7a4 wsJ6_bitCount_0f7a4) := goodIn_app (goodIn_of _ (by decide +kernel)) ggX11_pansInUse_J6_bitCount_0f7a4
theorem dX11_pansInUse_0 : decode cX11_pansInUse 0 = .ok (.aload_n 0, 1) := by decide +kernel
theorem dX11_pansInUse_1 : decode cX11_pansInUse 1 = .ok (.iload_n 1, 1) := by decide +kernel
theorem dX11_pansInUse_2 : decode cX11_pansInUse 2 = .ok (.invokevirtual 179, 3) := by decide +kernel
theorem dX11_pansInUse_5 : decode cX11_pansInUse 5 = .ok (.aload_n 0, 1) := by decide +kernel
theorem dX11_pansInUse_6 : decode cX11_pansInUse 6 = .ok (.getfield 67, 3) := by decide +kernel
theorem dX11_pansInUse_9 : decode cX11_pansInUse 9 = .ok (.iload_n 1, 1) := by decide +kernel
theorem dX11_pansInUse_10 : decode cX11_pansInUse 10 = .ok (.invokevirtual 185, 3) := by decide +kernel
theorem dX11_pansInUse_13 : decode cX11_pansInUse 13 = .ok (.invokestatic 188, 3) := by decide +kernel
theorem dX11_pansInUse_16 : decode cX11_pansInUse 16 = .ok (.ireturn, 1) := by decide +kernel
set_option maxRecDepth 20000 in
theorem ggX11_duration_X11_requireStep : GoodIn wsX11_duration wsX11_requireStep := goodIn_ca (goodIn_r _ [6, 7, 8, 1, 9, 10, 5, 11, 12, 13, 14, 15, 16, 17, 18, 19, 20, 21, 22, 23, 24, 25, 26, 27, 43, 44, 45, 46, 47, 48, 49, 50, 51, 52, 53, 54, 55, 56, 57, 58, 59, 60, 61, 62] rfl (by decide +kernel)) (goodIn_sub (fun _ h => List.mem_cons_of_mem _ (List.mem_append_right _ h)) (by decide +kernel))
set_option maxRecDepth 20000 in
theorem gX11_duration_X11_requireStep : GoodIn wsX11_duration (wsV RX11 193 RX11 yX11_requireStep wsX11_requireStep) := goodIn_app (goodIn_of _ (by decide +kernel)) ggX11_duration_X11_requireStep
theorem dX11_duration_0 : decode cX11_duration 0 = .ok (.aload_n 0, 1) := by decide +kernel
theorem dX11_duration_1 : decode cX11_duration 1 = .ok (.iload_n 1, 1) := by decide +kernel
theorem dX11_duration_2 : decode cX11_duration 2 = .ok (.invokevirtual 193, 3) := by decide +kernel
theorem dX11_duration_5 : decode cX11_duration 5 = .ok (.aload_n 0, 1) := by decide +kernel
theorem dX11_duration_6 : decode cX11_duration 6 = .ok (.getfield 67, 3) := by decide +kernel
theorem dX11_duration_9 : decode cX11_duration 9 = .ok (.getfield 139, 3) := by decide +kernel
theorem dX11_duration_12 : decode cX11_duration 12 = .ok (.getfield 196, 3) := by decide +kernel
theorem dX11_duration_15 : decode cX11_duration 15 = .ok (.iload_n 1, 1) := by decide +kernel
theorem dX11_duration_16 : decode cX11_duration 16 = .ok (.iaload, 1) := by decide +kernel
theorem dX11_duration_17 : decode cX11_duration 17 = .ok (.ireturn, 1) := by decide +kernel
set_option maxRecDepth 20000 in
theorem ggX11_stepTaste_X11_requireStep : GoodIn wsX11_stepTaste wsX11_requireStep := goodIn_ca (goodIn_r _ [6, 7, 8, 1, 9, 10, 5, 11, 12, 13, 14, 15, 16, 17, 18, 19, 20, 21, 22, 23, 24, 25, 26, 27, 28, 29, 30, 31, 32, 33, 34, 35, 36, 37, 38, 39, 40, 41, 42, 43, 44, 45, 46, 47] rfl (by decide +kernel)) (goodIn_sub (fun _ h => List.mem_cons_of_mem _ (List.mem_append_right _ h)) (by decide +kernel))
set_option maxRecDepth 20000 in
theorem gX11_stepTaste_X11_requireStep : GoodIn wsX11_stepTaste (wsV RX11 193 RX11 yX11_requireStep wsX11_requireStep) := goodIn_app (goodIn_of _ (by decide +kernel)) ggX11_stepTaste_X11_requireStep
theorem dX11_stepTaste_0 : decode cX11_stepTaste 0 = .ok (.aload_n 0, 1) := by decide +kernel
theorem dX11_stepTaste_1 : decode cX11_stepTaste 1 = .ok (.iload_n 1, 1) := by decide +kernel
theorem dX11_stepTaste_2 : decode cX11_stepTaste 2 = .ok (.invokevirtual 193, 3) := by decide +kernel
theorem dX11_stepTaste_5 : decode cX11_stepTaste 5 = .ok (.aload_n 0, 1) := by decide +kernel
theorem dX11_stepTaste_6 : decode cX11_stepTaste 6 = .ok (.getfield 67, 3) := by decide +kernel
theorem dX11_stepTaste_9 : decode cX11_stepTaste 9 = .ok (.getfield 117, 3) := by decide +kernel
theorem dX11_stepTaste_12 : decode cX11_stepTaste 12 = .ok (.getfield 199, 3) := by decide +kernel
theorem dX11_stepTaste_15 : decode cX11_stepTaste 15 = .ok (.iload_n 1, 1) := by decide +kernel
theorem dX11_stepTaste_16 : decode cX11_stepTaste 16 = .ok (.iaload, 1) := by decide +kernel
theorem dX11_stepTaste_17 : decode cX11_stepTaste 17 = .ok (.ireturn, 1) := by decide +kernel
set_option maxRecDepth 20000 in
theorem ggX11_panType_X11_requireStep : GoodIn wsX11_panType wsX11_requireStep := goodIn_ca (goodIn_r _ [6, 7, 8, 1, 9, 10, 5, 11, 12, 13, 14, 15, 16, 17, 18, 19, 20, 21, 22, 23, 24, 25, 26, 27, 28, 29, 30, 31, 32, 33, 34, 35, 36, 37, 38, 39, 40, 41, 42, 43, 44, 45, 46, 47] rfl (by decide +kernel)) (goodIn_sub (fun _ h => List.mem_cons_of_mem _ (List.mem_append_right _ h)) (by decide +kernel))
set_option maxRecDepth 20000 in
theorem gX11_panType_X11_requireStep : GoodIn wsX11_panType (wsV RX11 193 RX11 yX11_requireStep wsX11_requireStep) := goodIn_app (goodIn_of _ (by decide +kernel)) ggX11_panType_X11_requireStep
theorem dX11_panType_0 : decode cX11_panType 0 = .ok (.aload_n 0, 1) := by decide +kernel
theorem dX11_panType_1 : decode cX11_panType 1 = .ok (.iload_n 1, 1) := by decide +kernel
theorem dX11_panType_2 : decode cX11_panType 2 = .ok (.invokevirtual 193, 3) := by decide +kernel
theorem dX11_panType_5 : decode cX11_panType 5 = .ok (.aload_n 0, 1) := by decide +kernel
theorem dX11_panType_6 : decode cX11_panType 6 = .ok (.getfield 67, 3) := by decide +kernel
theorem dX11_panType_9 : decode cX11_panType 9 = .ok (.getfield 117, 3) := by decide +kernel
theorem dX11_panType_12 : decode cX11_panType 12 = .ok (.getfield 202, 3) := by decide +kernel
theorem dX11_panType_15 : decode cX11_panType 15 = .ok (.iload_n 1, 1) := by decide +kernel
theorem dX11_panType_16 : decode cX11_panType 16 = .ok (.iaload, 1) := by decide +kernel
theorem dX11_panType_17 : decode cX11_panType 17 = .ok (.ireturn, 1) := by decide +kernel
set_option maxRecDepth 20000 in
theorem ggX11_isHot_X11_requireStep : GoodIn wsX11_isHot wsX11_requireStep := goodIn_ca (goodIn_r _ [6, 7, 8, 1, 9, 10, 5, 11, 15, 16, 17, 18, 19, 20, 21, 22, 23, 24, 25, 26, 27, 28, 29, 30, 31, 32, 33, 34, 35, 36, 37, 38, 39, 40, 41, 42, 43, 44, 45, 46, 47, 48, 49, 50] rfl (by decide +kernel)) (goodIn_sub (fun _ h => List.mem_cons_of_mem _ (List.mem_append_right _ h)) (by decide +kernel))
set_option maxRecDepth 20000 in
theorem gX11_isHot_X11_requireStep : GoodIn wsX11_isHot (wsV RX11 193 RX11 yX11_requireStep wsX11_requireStep) := goodIn_app (goodIn_of _ (by decide +kernel)) ggX11_isHot_X11_requireStep
set_option maxRecDepth 20000 in
theorem ggX11_isHot_X11_contains : GoodIn wsX11_isHot wsX11_contains := goodIn_r _ [14] rfl (by decide +kernel)
set_option maxRecDepth 20000 in
theorem gX11_isHot_X11_contains : GoodIn wsX11_isHot (va_wsS RX11 208 yX11_contains wsX11_contains) := goodIn_app (goodIn_of _ (by decide +kernel)) ggX11_isHot_X11_contains
theorem dX11_isHot_0 : decode cX11_isHot 0 = .ok (.aload_n 0, 1) := by decide +kernel
theorem dX11_isHot_1 : decode cX11_isHot 1 = .ok (.iload_n 1, 1) := by decide +kernel
theorem dX11_isHot_2 : decode cX11_isHot 2 = .ok (.invokevirtual 193, 3) := by decide +kernel
theorem dX11_isHot_5 : decode cX11_isHot 5 = .ok (.aload_n 0, 1) := by decide +kernel
theorem dX11_isHot_6 : decode cX11_isHot 6 = .ok (.getfield 67, 3) := by decide +kernel
theorem dX11_isHot_9 : decode cX11_isHot 9 = .ok (.getfield 117, 3) := by decide +kernel
theorem dX11_isHot_12 : decode cX11_isHot 12 = .ok (.getfield 205, 3) := by decide +kernel
theorem dX11_isHot_15 : decode cX11_isHot 15 = .ok (.iload_n 1, 1) := by decide +kernel
theorem dX11_isHot_16 : decode cX11_isHot 16 = .ok (.invokestatic 208, 3) := by decide +kernel
theorem dX11_isHot_19 : decode cX11_isHot 19 = .ok (.ireturn, 1) := by decide +kernel
set_option maxRecDepth 20000 in
theorem ggX11_isUnattended_X11_requireStep : GoodIn wsX11_isUnattended wsX11_requireStep := goodIn_ca (goodIn_r _ [6, 7, 8, 1, 9, 10, 5, 11, 15, 16, 17, 18, 19, 20, 21, 22, 23, 24, 25, 26, 27, 28, 29, 30, 31, 32, 33, 34, 35, 36, 37, 38, 39, 40, 41, 42, 43, 44, 45, 46, 47, 48, 49, 50] rfl (by decide +kernel)) (goodIn_sub (fun _ h => List.mem_cons_of_mem _ (List.mem_append_right _ h)) (by decide +kernel))
set_option maxRecDepth 20000 in
theorem gX11_isUnattended_X11_requireStep : GoodIn wsX11_isUnattended (wsV RX11 193 RX11 yX11_requireStep wsX11_requireStep) := goodIn_app (goodIn_of _ (by decide +kernel)) ggX11_isUnattended_X11_requireStep
set_option maxRecDepth 20000 in
theorem ggX11_isUnattended_X11_contains : GoodIn wsX11_isUnattended wsX11_contains := goodIn_r _ [14] rfl (by decide +kernel)
set_option maxRecDepth 20000 in
theorem gX11_isUnattended_X11_contains : GoodIn wsX11_isUnattended (va_wsS RX11 208 yX11_contains wsX11_contains) := goodIn_app (goodIn_of _ (by decide +kernel)) ggX11_isUnattended_X11_contains
theorem dX11_isUnattended_0 : decode cX11_isUnattended 0 = .ok (.aload_n 0, 1) := by decide +kernel
theorem dX11_isUnattended_1 : decode cX11_isUnattended 1 = .ok (.iload_n 1, 1) := by decide +kernel
theorem dX11_isUnattended_2 : decode cX11_isUnattended 2 = .ok (.invokevirtual 193, 3) := by decide +kernel
theorem dX11_isUnattended_5 : decode cX11_isUnattended 5 = .ok (.aload_n 0, 1) := by decide +kernel
theorem dX11_isUnattended_6 : decode cX11_isUnattended 6 = .ok (.getfield 67, 3) := by decide +kernel
theorem dX11_isUnattended_9 : decode cX11_isUnattended 9 = .ok (.getfield 117, 3) := by decide +kernel
theorem dX11_isUnattended_12 : decode cX11_isUnattended 12 = .ok (.getfield 212, 3) := by decide +kernel
theorem dX11_isUnattended_15 : decode cX11_isUnattended 15 = .ok (.iload_n 1, 1) := by decide +kernel
theorem dX11_isUnattended_16 : decode cX11_isUnattended 16 = .ok (.invokestatic 208, 3) := by decide +kernel
theorem dX11_isUnattended_19 : decode cX11_isUnattended 19 = .ok (.ireturn, 1) := by decide +kernel
set_option maxRecDepth 20000 in
theorem ggX11_predecessor_X11_requireStep : GoodIn wsX11_predecessor wsX11_requireStep := goodIn_ca (goodIn_r _ [6, 7, 8, 1, 9, 10, 5, 11, 12, 13, 14, 15, 16, 17, 18, 19, 20, 21, 22, 23, 24, 25, 26, 27, 28, 29, 30, 31, 32, 33, 34, 35, 36, 37, 38, 39, 40, 41, 42, 43, 44, 45, 46, 47] rfl (by decide +kernel)) (goodIn_sub (fun _ h => List.mem_cons_of_mem _ (List.mem_append_right _ h)) (by decide +kernel))
set_option maxRecDepth 20000 in
theorem gX11_predecessor_X11_requireStep : GoodIn wsX11_predecessor (wsV RX11 193 RX11 yX11_requireStep wsX11_requireStep) := goodIn_app (goodIn_of _ (by decide +kernel)) ggX11_predecessor_X11_requireStep
set_option maxRecDepth 20000 in
theorem ggX11_predecessor_X11_isWithin : GoodIn wsX11_predecessor wsX11_isWithin := goodIn_r _ [11] rfl (by decide +kernel)
set_option maxRecDepth 20000 in
theorem gX11_predecessor_X11_isWithin : GoodIn wsX11_predecessor (va_wsS RX11 105 yX11_isWithin wsX11_isWithin) := goodIn_app (goodIn_of _ (by decide +kernel)) ggX11_predecessor_X11_isWithin
theorem dX11_predecessor_0 : decode cX11_predecessor 0 = .ok (.aload_n 0, 1) := by decide +kernel
theorem dX11_predecessor_1 : decode cX11_predecessor 1 = .ok (.iload_n 1, 1) := by decide +kernel
theorem dX11_predecessor_2 : decode cX11_predecessor 2 = .ok (.invokevirtual 193, 3) := by decide +kernel
theorem dX11_predecessor_5 : decode cX11_predecessor 5 = .ok (.iload_n 2, 1) := by decide +kernel
theorem dX11_predecessor_6 : decode cX11_predecessor 6 = .ok (.iconst 0, 1) := by decide +kernel
theorem dX11_predecessor_7 : decode cX11_predecessor 7 = .ok (.aload_n 0, 1) := by decide +kernel
theorem dX11_predecessor_8 : decode cX11_predecessor 8 = .ok (.getfield 67, 3) := by decide +kernel
theorem dX11_predecessor_11 : decode cX11_predecessor 11 = .ok (.getfield 117, 3) := by decide +kernel
theorem dX11_predecessor_14 : decode cX11_predecessor 14 = .ok (.getfield 215, 3) := by decide +kernel
theorem dX11_predecessor_17 : decode cX11_predecessor 17 = .ok (.iload_n 1, 1) := by decide +kernel
theorem dX11_predecessor_18 : decode cX11_predecessor 18 = .ok (.iaload, 1) := by decide +kernel
theorem dX11_predecessor_19 : decode cX11_predecessor 19 = .ok (.iconst 1, 1) := by decide +kernel
theorem dX11_predecessor_20 : decode cX11_predecessor 20 = .ok (.isub, 1) := by decide +kernel
theorem dX11_predecessor_21 : decode cX11_predecessor 21 = .ok (.invokestatic 105, 3) := by decide +kernel
theorem dX11_predecessor_24 : decode cX11_predecessor 24 = .ok (.ifCond .ne 5, 3) := by decide +kernel
theorem dX11_predecessor_27 : decode cX11_predecessor 27 = .ok (.iconst (-1), 1) := by decide +kernel
theorem dX11_predecessor_28 : decode cX11_predecessor 28 = .ok (.ireturn, 1) := by decide +kernel
theorem dX11_predecessor_29 : decode cX11_predecessor 29 = .ok (.aload_n 0, 1) := by decide +kernel
theorem dX11_predecessor_30 : decode cX11_predecessor 30 = .ok (.getfield 67, 3) := by decide +kernel
theorem dX11_predecessor_33 : decode cX11_predecessor 33 = .ok (.getfield 117, 3) := by decide +kernel
theorem dX11_predecessor_36 : decode cX11_predecessor 36 = .ok (.getfield 218, 3) := by decide +kernel
theorem dX11_predecessor_39 : decode cX11_predecessor 39 = .ok (.iload_n 1, 1) := by decide +kernel
theorem dX11_predecessor_40 : decode cX11_predecessor 40 = .ok (.aaload, 1) := by decide +kernel
theorem dX11_predecessor_41 : decode cX11_predecessor 41 = .ok (.iload_n 2, 1) := by decide +kernel
theorem dX11_predecessor_42 : decode cX11_predecessor 42 = .ok (.iaload, 1) := by decide +kernel
theorem dX11_predecessor_43 : decode cX11_predecessor 43 = .ok (.ireturn, 1) := by decide +kernel
set_option maxRecDepth 20000 in
theorem ggX11_successorCount_X11_requireStep : GoodIn wsX11_successorCount wsX11_requireStep := goodIn_ca (goodIn_r _ [6, 7, 8, 1, 9, 10, 5, 11, 19, 20, 21, 22, 23, 24, 25, 26, 27, 28, 29, 30, 31, 32, 33, 34, 35, 36, 37, 38, 39, 40, 41, 42, 43, 44, 45, 46, 47, 48, 49, 50, 51, 52, 53, 54] rfl (by decide +kernel)) (goodIn_sub (fun _ h => List.mem_cons_of_mem _ (List.mem_append_right _ h)) (by decide +kernel))
set_option maxRecDepth 20000 in
theorem gX11_successorCount_X11_requireStep : GoodIn wsX11_successorCount (wsV RX11 193 RX11 yX11_requireStep wsX11_requireStep) := goodIn_app (goodIn_of _ (by decide +kernel)) ggX11_successorCount_X11_requireStep
set_option maxRecDepth 20000 in
theorem ggX11_successorCount_J6_bitCount_0f7a4 : GoodIn wsX11_successorCount wsJ6_bitCount_0f7a4 := goodIn_r _ [15, 16, 17, 18] rfl (by decide +kernel)
set_option maxRecDepth 20000 in
theorem gX11_successorCount_J6_bitCount_0f7a4 : GoodIn wsX11_successorCount (va_wsS RX11 188 yJ6_bitCount_0f7a4 wsJ6_bitCount_0f7a4) := goodIn_app (goodIn_of _ (by decide +kernel)) ggX11_successorCount_J6_bitCount_0f7a4
theorem dX11_successorCount_0 : decode cX11_successorCount 0 = .ok (.aload_n 0, 1) := by decide +kernel
theorem dX11_successorCount_1 : decode cX11_successorCount 1 = .ok (.iload_n 1, 1) := by decide +kernel
theorem dX11_successorCount_2 : decode cX11_successorCount 2 = .ok (.invokevirtual 193, 3) := by decide +kernel
theorem dX11_successorCount_5 : decode cX11_successorCount 5 = .ok (.aload_n 0, 1) := by decide +kernel
theorem dX11_successorCount_6 : decode cX11_successorCount 6 = .ok (.getfield 67, 3) := by decide +kernel
theorem dX11_successorCount_9 : decode cX11_successorCount 9 = .ok (.getfield 117, 3) := by decide +kernel
theorem dX11_successorCount_12 : decode cX11_successorCount 12 = .ok (.getfield 222, 3) := by decide +kernel
theorem dX11_successorCount_15 : decode cX11_successorCount 15 = .ok (.iload_n 1, 1) := by decide +kernel
theorem dX11_successorCount_16 : decode cX11_successorCount 16 = .ok (.iaload, 1) := by decide +kernel
theorem dX11_successorCount_17 : decode cX11_successorCount 17 = .ok (.invokestatic 188, 3) := by decide +kernel
theorem dX11_successorCount_20 : decode cX11_successorCount 20 = .ok (.ireturn, 1) := by decide +kernel
set_option maxRecDepth 20000 in
theorem ggX11_dependsOn_X11_requireStep : GoodIn wsX11_dependsOn wsX11_requireStep := goodIn_ca (goodIn_r _ [6, 7, 8, 1, 9, 10, 5, 11, 21, 22, 23, 24, 25, 26, 27, 28, 29, 30, 31, 32, 33, 34, 35, 36, 37, 38, 39, 40, 41, 42, 43, 44, 45, 46, 47, 48, 49, 50, 51, 52, 53, 54, 55, 56] rfl (by decide +kernel)) (goodIn_sub (fun _ h => List.mem_cons_of_mem _ (List.mem_append_right _ h)) (by decide +kernel))
set_option maxRecDepth 20000 in
theorem gX11_dependsOn_X11_requireStep : GoodIn wsX11_dependsOn (wsV RX11 193 RX11 yX11_requireStep wsX11_requireStep) := goodIn_app (goodIn_of _ (by decide +kernel)) ggX11_dependsOn_X11_requireStep
set_option maxRecDepth 20000 in
theorem ggX11_dependsOn_X5_allBefore : GoodIn wsX11_dependsOn wsX5_allBefore := goodIn_r _ [16, 17, 18, 5, 19, 37, 38, 39, 40, 41, 42, 43, 44, 45, 46, 47, 48, 49, 50, 51, 52, 53] rfl (by decide +kernel)
set_option maxRecDepth 20000 in
theorem gX11_dependsOn_X5_allBefore : GoodIn wsX11_dependsOn (wsV RX11 225 RX5 yX5_allBefore wsX5_allBefore) := goodIn_app (goodIn_of _ (by decide +kernel)) ggX11_dependsOn_X5_allBefore
set_option maxRecDepth 20000 in
theorem ggX11_dependsOn_X11_contains : GoodIn wsX11_dependsOn wsX11_contains := goodIn_r _ [19] rfl (by decide +kernel)
set_option maxRecDepth 20000 in
theorem gX11_dependsOn_X11_contains : GoodIn wsX11_dependsOn (va_wsS RX11 208 yX11_contains wsX11_contains) := goodIn_app (goodIn_of _ (by decide +kernel)) ggX11_dependsOn_X11_contains
theorem dX11_dependsOn_0 : decode cX11_dependsOn 0 = .ok (.aload_n 0, 1) := by decide +kernel
theorem dX11_dependsOn_1 : decode cX11_dependsOn 1 = .ok (.iload_n 1, 1) := by decide +kernel
theorem dX11_dependsOn_2 : decode cX11_dependsOn 2 = .ok (.invokevirtual 193, 3) := by decide +kernel
theorem dX11_dependsOn_5 : decode cX11_dependsOn 5 = .ok (.aload_n 0, 1) := by decide +kernel
theorem dX11_dependsOn_6 : decode cX11_dependsOn 6 = .ok (.iload_n 2, 1) := by decide +kernel
theorem dX11_dependsOn_7 : decode cX11_dependsOn 7 = .ok (.invokevirtual 193, 3) := by decide +kernel
theorem dX11_dependsOn_10 : decode cX11_dependsOn 10 = .ok (.aload_n 0, 1) := by decide +kernel
theorem dX11_dependsOn_11 : decode cX11_dependsOn 11 = .ok (.getfield 67, 3) := by decide +kernel
theorem dX11_dependsOn_14 : decode cX11_dependsOn 14 = .ok (.getfield 117, 3) := by decide +kernel
theorem dX11_dependsOn_17 : decode cX11_dependsOn 17 = .ok (.iload_n 1, 1) := by decide +kernel
theorem dX11_dependsOn_18 : decode cX11_dependsOn 18 = .ok (.invokevirtual 225, 3) := by decide +kernel
theorem dX11_dependsOn_21 : decode cX11_dependsOn 21 = .ok (.iload_n 2, 1) := by decide +kernel
theorem dX11_dependsOn_22 : decode cX11_dependsOn 22 = .ok (.invokestatic 208, 3) := by decide +kernel
theorem dX11_dependsOn_25 : decode cX11_dependsOn 25 = .ok (.ireturn, 1) := by decide +kernel
set_option maxRecDepth 20000 in
theorem ggX11_pathLength_X11_requireStep : GoodIn wsX11_pathLength wsX11_requireStep := goodIn_ca (goodIn_r _ [6, 7, 8, 1, 9, 10, 5, 11, 27, 28, 29, 30, 31, 32, 33, 34, 35, 36, 37, 38, 39, 40, 41, 42, 43, 44, 45, 46, 47, 48, 49, 50, 51, 52, 53, 54, 55, 56, 57, 58, 59, 60, 61, 62] rfl (by decide +kernel)) (goodIn_sub (fun _ h => List.mem_cons_of_mem _ (List.mem_append_right _ h)) (by decide +kernel))
set_option maxRecDepth 20000 in
theorem gX11_pathLength_X11_requireStep : GoodIn wsX11_pathLength (wsV RX11 193 RX11 yX11_requireStep wsX11_requireStep) := goodIn_app (goodIn_of _ (by decide +kernel)) ggX11_pathLength_X11_requireStep
set_option maxRecDepth 20000 in
theorem ggX11_pathLength_X3_rank : GoodIn wsX11_pathLength wsX3_rank := goodIn_r _ [16, 17, 18, 19, 20, 21, 22, 23, 15, 24, 25, 5, 26, 38, 39, 40, 41, 42, 43, 44, 45, 46, 47, 48, 49, 50, 51, 52, 53, 54, 55, 56, 57, 58, 59, 60, 61, 62, 63, 64, 65, 66, 67, 68, 69, 70, 71, 72, 73, 74, 75, 76, 77] rfl (by decide +kernel)
set_option maxRecDepth 20000 in
theorem gX11_pathLength_X3_rank : GoodIn wsX11_pathLength (wsV RX11 228 RX3 yX3_rank wsX3_rank) := goodIn_app (goodIn_of _ (by decide +kernel)) ggX11_pathLength_X3_rank
theorem dX11_pathLength_0 : decode cX11_pathLength 0 = .ok (.aload_n 0, 1) := by decide +kernel
theorem dX11_pathLength_1 : decode cX11_pathLength 1 = .ok (.iload_n 1, 1) := by decide +kernel
theorem dX11_pathLength_2 : decode cX11_pathLength 2 = .ok (.invokevirtual 193, 3) := by decide +kernel
theorem dX11_pathLength_5 : decode cX11_pathLength 5 = .ok (.aload_n 0, 1) := by decide +kernel
theorem dX11_pathLength_6 : decode cX11_pathLength 6 = .ok (.getfield 67, 3) := by decide +kernel
theorem dX11_pathLength_9 : decode cX11_pathLength 9 = .ok (.invokevirtual 228, 3) := by decide +kernel
theorem dX11_pathLength_12 : decode cX11_pathLength 12 = .ok (.aload_n 0, 1) := by decide +kernel
theorem dX11_pathLength_13 : decode cX11_pathLength 13 = .ok (.getfield 67, 3) := by decide +kernel
theorem dX11_pathLength_16 : decode cX11_pathLength 16 = .ok (.getfield 231, 3) := by decide +kernel
theorem dX11_pathLength_19 : decode cX11_pathLength 19 = .ok (.iload_n 1, 1) := by decide +kernel
theorem dX11_pathLength_20 : decode cX11_pathLength 20 = .ok (.iaload, 1) := by decide +kernel
theorem dX11_pathLength_21 : decode cX11_pathLength 21 = .ok (.ireturn, 1) := by decide +kernel
set_option maxRecDepth 20000 in
theorem ggX11_nameLetter_X11_requireStep : GoodIn wsX11_nameLetter wsX11_requireStep := goodIn_ca (goodIn_r _ [8, 1, 2, 3, 9, 10, 7, 11, 12, 13, 14, 15, 16, 17, 18, 19, 20, 21, 22, 23, 24, 25, 26, 27, 28, 29, 30, 31, 32, 33, 34, 35, 36, 37, 38, 39, 40, 41, 42, 43, 44, 45, 46, 47] rfl (by decide +kernel)) (goodIn_sub (fun _ h => List.mem_cons_of_mem _ (List.mem_append_right _ h)) (by decide +kernel))
set_option maxRecDepth 20000 in
theorem gX11_nameLetter_X11_requireStep : GoodIn wsX11_nameLetter (wsV RX11 193 RX11 yX11_requireStep wsX11_requireStep) := goodIn_app (goodIn_of _ (by decide +kernel)) ggX11_nameLetter_X11_requireStep
set_option maxRecDepth 20000 in
theorem ggX11_nameLetter_X11_isWithin : GoodIn wsX11_nameLetter wsX11_isWithin := goodIn_r _ [11] rfl (by decide +kernel)
set_option maxRecDepth 20000 in
theorem gX11_nameLetter_X11_isWithin : GoodIn wsX11_nameLetter (va_wsS RX11 105 yX11_isWithin wsX11_isWithin) := goodIn_app (goodIn_of _ (by decide +kernel)) ggX11_nameLetter_X11_isWithin
theorem dX11_nameLetter_0 : decode cX11_nameLetter 0 = .ok (.aload_n 0, 1) := by decide +kernel
theorem dX11_nameLetter_1 : decode cX11_nameLetter 1 = .ok (.iload_n 1, 1) := by decide +kernel
theorem dX11_nameLetter_2 : decode cX11_nameLetter 2 = .ok (.invokevirtual 193, 3) := by decide +kernel
theorem dX11_nameLetter_5 : decode cX11_nameLetter 5 = .ok (.iload_n 2, 1) := by decide +kernel
theorem dX11_nameLetter_6 : decode cX11_nameLetter 6 = .ok (.iconst 0, 1) := by decide +kernel
theorem dX11_nameLetter_7 : decode cX11_nameLetter 7 = .ok (.aload_n 0, 1) := by decide +kernel
theorem dX11_nameLetter_8 : decode cX11_nameLetter 8 = .ok (.getfield 67, 3) := by decide +kernel
theorem dX11_nameLetter_11 : decode cX11_nameLetter 11 = .ok (.getfield 117, 3) := by decide +kernel
theorem dX11_nameLetter_14 : decode cX11_nameLetter 14 = .ok (.getfield 126, 3) := by decide +kernel
theorem dX11_nameLetter_17 : decode cX11_nameLetter 17 = .ok (.getfield 234, 3) := by decide +kernel
theorem dX11_nameLetter_20 : decode cX11_nameLetter 20 = .ok (.iload_n 1, 1) := by decide +kernel
theorem dX11_nameLetter_21 : decode cX11_nameLetter 21 = .ok (.iaload, 1) := by decide +kernel
theorem dX11_nameLetter_22 : decode cX11_nameLetter 22 = .ok (.iconst 1, 1) := by decide +kernel
theorem dX11_nameLetter_23 : decode cX11_nameLetter 23 = .ok (.isub, 1) := by decide +kernel
theorem dX11_nameLetter_24 : decode cX11_nameLetter 24 = .ok (.invokestatic 105, 3) := by decide +kernel
theorem dX11_nameLetter_27 : decode cX11_nameLetter 27 = .ok (.ifCond .ne 13, 3) := by decide +kernel
theorem dX11_nameLetter_30 : decode cX11_nameLetter 30 = .ok (.new 237, 3) := by decide +kernel
theorem dX11_nameLetter_33 : decode cX11_nameLetter 33 = .ok (.dup, 1) := by decide +kernel
theorem dX11_nameLetter_34 : decode cX11_nameLetter 34 = .ok (.ldc 239, 2) := by decide +kernel
theorem dX11_nameLetter_36 : decode cX11_nameLetter 36 = .ok (.invokespecial 241, 3) := by decide +kernel
theorem dX11_nameLetter_39 : decode cX11_nameLetter 39 = .ok (.athrow, 1) := by decide +kernel
theorem dX11_nameLetter_40 : decode cX11_nameLetter 40 = .ok (.aload_n 0, 1) := by decide +kernel
theorem dX11_nameLetter_41 : decode cX11_nameLetter 41 = .ok (.getfield 67, 3) := by decide +kernel
theorem dX11_nameLetter_44 : decode cX11_nameLetter 44 = .ok (.getfield 117, 3) := by decide +kernel
theorem dX11_nameLetter_47 : decode cX11_nameLetter 47 = .ok (.getfield 126, 3) := by decide +kernel
theorem dX11_nameLetter_50 : decode cX11_nameLetter 50 = .ok (.getfield 242, 3) := by decide +kernel
theorem dX11_nameLetter_53 : decode cX11_nameLetter 53 = .ok (.iload_n 1, 1) := by decide +kernel
theorem dX11_nameLetter_54 : decode cX11_nameLetter 54 = .ok (.aaload, 1) := by decide +kernel
theorem dX11_nameLetter_55 : decode cX11_nameLetter 55 = .ok (.iload_n 2, 1) := by decide +kernel
theorem dX11_nameLetter_56 : decode cX11_nameLetter 56 = .ok (.baload, 1) := by decide +kernel
theorem dX11_nameLetter_57 : decode cX11_nameLetter 57 = .ok (.ireturn, 1) := by decide +kernel
set_option maxRecDepth 20000 in
theorem ggX11_findStep_X4_indexOf : GoodIn wsX11_findStep wsX4_indexOf := goodIn_r _ [9, 10, 11, 12, 13, 14, 8, 15, 16, 52, 53, 54, 50, 51] rfl (by decide +kernel)
set_option maxRecDepth 20000 in
theorem gX11_findStep_X4_indexOf : GoodIn wsX11_findStep (wsV RX11 246 RX4 yX4_indexOf wsX4_indexOf) := goodIn_app (goodIn_of _ (by decide +kernel)) ggX11_findStep_X4_indexOf
theorem dX11_findStep_0 : decode cX11_findStep 0 = .ok (.aload_n 0, 1) := by decide +kernel
theorem dX11_findStep_1 : decode cX11_findStep 1 = .ok (.getfield 67, 3) := by decide +kernel
theorem dX11_findStep_4 : decode cX11_findStep 4 = .ok (.getfield 117, 3) := by decide +kernel
theorem dX11_findStep_7 : decode cX11_findStep 7 = .ok (.getfield 126, 3) := by decide +kernel
theorem dX11_findStep_10 : decode cX11_findStep 10 = .ok (.aload_n 0, 1) := by decide +kernel
theorem dX11_findStep_11 : decode cX11_findStep 11 = .ok (.getfield 41, 3) := by decide +kernel
theorem dX11_findStep_14 : decode cX11_findStep 14 = .ok (.iconst 0, 1) := by decide +kernel
theorem dX11_findStep_15 : decode cX11_findStep 15 = .ok (.aload_n 0, 1) := by decide +kernel
theorem dX11_findStep_16 : decode cX11_findStep 16 = .ok (.getfield 41, 3) := by decide +kernel
theorem dX11_findStep_19 : decode cX11_findStep 19 = .ok (.getfield 37, 3) := by decide +kernel
theorem dX11_findStep_22 : decode cX11_findStep 22 = .ok (.invokevirtual 246, 3) := by decide +kernel
theorem dX11_findStep_25 : decode cX11_findStep 25 = .ok (.istore_n 1, 1) := by decide +kernel
theorem dX11_findStep_26 : decode cX11_findStep 26 = .ok (.iload_n 1, 1) := by decide +kernel
theorem dX11_findStep_27 : decode cX11_findStep 27 = .ok (.iconst (-1), 1) := by decide +kernel
theorem dX11_findStep_28 : decode cX11_findStep 28 = .ok (.if_icmp .ne 13, 3) := by decide +kernel
theorem dX11_findStep_31 : decode cX11_findStep 31 = .ok (.new 250, 3) := by decide +kernel
theorem dX11_findStep_34 : decode cX11_findStep 34 = .ok (.dup, 1) := by decide +kernel
theorem dX11_findStep_35 : decode cX11_findStep 35 = .ok (.ldc 252, 2) := by decide +kernel
theorem dX11_findStep_37 : decode cX11_findStep 37 = .ok (.invokespecial 254, 3) := by decide +kernel
theorem dX11_findStep_40 : decode cX11_findStep 40 = .ok (.athrow, 1) := by decide +kernel
theorem dX11_findStep_41 : decode cX11_findStep 41 = .ok (.iload_n 1, 1) := by decide +kernel
theorem dX11_findStep_42 : decode cX11_findStep 42 = .ok (.ireturn, 1) := by decide +kernel
set_option maxRecDepth 20000 in
theorem ggX11_status_X11_requireStep : GoodIn wsX11_status wsX11_requireStep := goodIn_ca (goodIn_r _ [6, 7, 8, 1, 9, 10, 5, 11, 22, 23, 24, 25, 26, 27, 28, 29, 30, 31, 32, 33, 34, 35, 36, 37, 38, 39, 40, 41, 42, 43, 44, 45, 46, 47, 48, 49, 50, 51, 52, 53, 54, 55, 56, 57] rfl (by decide +kernel)) (goodIn_sub (fun _ h => List.mem_cons_of_mem _ (List.mem_append_right _ h)) (by decide +kernel))
set_option maxRecDepth 20000 in
theorem gX11_status_X11_requireStep : GoodIn wsX11_status (wsV RX11 193 RX11 yX11_requireStep wsX11_requireStep) := goodIn_app (goodIn_of _ (by decide +kernel)) ggX11_status_X11_requireStep
set_option maxRecDepth 20000 in
theorem ggX11_status_X8_statusOf : GoodIn wsX11_status wsX8_statusOf := goodIn_r _ [16, 17, 18, 19, 20, 5, 21, 58, 59, 60, 61, 62, 63, 64, 65, 66, 67, 68, 69, 70, 71, 72] rfl (by decide +kernel)
set_option maxRecDepth 20000 in
theorem gX11_status_X8_statusOf : GoodIn wsX11_status (wsV RX11 158 RX8 yX8_statusOf wsX8_statusOf) := goodIn_app (goodIn_of _ (by decide +kernel)) ggX11_status_X8_statusOf
theorem dX11_status_0 : decode cX11_status 0 = .ok (.aload_n 0, 1) := by decide +kernel
theorem dX11_status_1 : decode cX11_status 1 = .ok (.iload_n 1, 1) := by decide +kernel
theorem dX11_status_2 : decode cX11_status 2 = .ok (.invokevirtual 193, 3) := by decide +kernel
theorem dX11_status_5 : decode cX11_status 5 = .ok (.aload_n 0, 1) := by decide +kernel
theorem dX11_status_6 : decode cX11_status 6 = .ok (.getfield 67, 3) := by decide +kernel
theorem dX11_status_9 : decode cX11_status 9 = .ok (.getfield 139, 3) := by decide +kernel
theorem dX11_status_12 : decode cX11_status 12 = .ok (.iload_n 1, 1) := by decide +kernel
theorem dX11_status_13 : decode cX11_status 13 = .ok (.invokevirtual 158, 3) := by decide +kernel
theorem dX11_status_16 : decode cX11_status 16 = .ok (.ireturn, 1) := by decide +kernel
set_option maxRecDepth 20000 in
theorem ggX11_remaining_X11_requireStep : GoodIn wsX11_remaining wsX11_requireStep := goodIn_ca (goodIn_r _ [6, 7, 8, 1, 9, 10, 5, 11, 12, 13, 14, 15, 16, 17, 18, 19, 20, 21, 22, 23, 24, 25, 26, 27, 43, 44, 45, 46, 47, 48, 49, 50, 51, 52, 53, 54, 55, 56, 57, 58, 59, 60, 61, 62] rfl (by decide +kernel)) (goodIn_sub (fun _ h => List.mem_cons_of_mem _ (List.mem_append_right _ h)) (by decide +kernel))
set_option maxRecDepth 20000 in
theorem gX11_remaining_X11_requireStep : GoodIn wsX11_remaining (wsV RX11 193 RX11 yX11_requireStep wsX11_requireStep) := goodIn_app (goodIn_of _ (by decide +kernel)) ggX11_remaining_X11_requireStep
theorem dX11_remaining_0 : decode cX11_remaining 0 = .ok (.aload_n 0, 1) := by decide +kernel
theorem dX11_remaining_1 : decode cX11_remaining 1 = .ok (.iload_n 1, 1) := by decide +kernel
theorem dX11_remaining_2 : decode cX11_remaining 2 = .ok (.invokevirtual 193, 3) := by decide +kernel
theorem dX11_remaining_5 : decode cX11_remaining 5 = .ok (.aload_n 0, 1) := by decide +kernel
theorem dX11_remaining_6 : decode cX11_remaining 6 = .ok (.getfield 67, 3) := by decide +kernel
theorem dX11_remaining_9 : decode cX11_remaining 9 = .ok (.getfield 139, 3) := by decide +kernel
theorem dX11_remaining_12 : decode cX11_remaining 12 = .ok (.getfield 255, 3) := by decide +kernel
theorem dX11_remaining_15 : decode cX11_remaining 15 = .ok (.iload_n 1, 1) := by decide +kernel
theorem dX11_remaining_16 : decode cX11_remaining 16 = .ok (.iaload, 1) := by decide +kernel
theorem dX11_remaining_17 : decode cX11_remaining 17 = .ok (.ireturn, 1) := by decide +kernel
set_option maxRecDepth 20000 in
theorem ggX11_age_X11_requireStep : GoodIn wsX11_age wsX11_requireStep := goodIn_ca (goodIn_r _ [6, 7, 8, 1, 9, 10, 5, 11, 12, 13, 14, 15, 16, 17, 18, 19, 20, 21, 22, 23, 24, 25, 26, 27, 43, 44, 45, 46, 47, 48, 49, 50, 51, 52, 53, 54, 55, 56, 57, 58, 59, 60, 61, 62] rfl (by decide +kernel)) (goodIn_sub (fun _ h => List.mem_cons_of_mem _ (List.mem_append_right _ h)) (by decide +kernel))
set_option maxRecDepth 20000 in
theorem gX11_age_X11_requireStep : GoodIn wsX11_age (wsV RX11 193 RX11 yX11_requireStep wsX11_requireStep) := goodIn_app (goodIn_of _ (by decide +kernel)) ggX11_age_X11_requireStep
theorem dX11_age_0 : decode cX11_age 0 = .ok (.aload_n 0, 1) := by decide +kernel
theorem dX11_age_1 : decode cX11_age 1 = .ok (.iload_n 1, 1) := by decide +kernel
theorem dX11_age_2 : decode cX11_age 2 = .ok (.invokevirtual 193, 3) := by decide +kernel
theorem dX11_age_5 : decode cX11_age 5 = .ok (.aload_n 0, 1) := by decide +kernel
theorem dX11_age_6 : decode cX11_age 6 = .ok (.getfield 67, 3) := by decide +kernel
theorem dX11_age_9 : decode cX11_age 9 = .ok (.getfield 139, 3) := by decide +kernel
theorem dX11_age_12 : decode cX11_age 12 = .ok (.getfield 258, 3) := by decide +kernel
theorem dX11_age_15 : decode cX11_age 15 = .ok (.iload_n 1, 1) := by decide +kernel
theorem dX11_age_16 : decode cX11_age 16 = .ok (.iaload, 1) := by decide +kernel
theorem dX11_age_17 : decode cX11_age 17 = .ok (.ireturn, 1) := by decide +kernel
set_option maxRecDepth 20000 in
theorem ggX11_startsOf_X11_requireStep : GoodIn wsX11_startsOf wsX11_requireStep := goodIn_ca (goodIn_r _ [6, 7, 8, 1, 9, 10, 5, 11, 12, 13, 14, 15, 16, 17, 18, 19, 20, 21, 22, 23, 24, 25, 26, 27, 43, 44, 45, 46, 47, 48, 49, 50, 51, 52, 53, 54, 55, 56, 57, 58, 59, 60, 61, 62] rfl (by decide +kernel)) (goodIn_sub (fun _ h => List.mem_cons_of_mem _ (List.mem_append_right _ h)) (by decide +kernel))
set_option maxRecDepth 20000 in
theorem gX11_startsOf_X11_requireStep : GoodIn wsX11_startsOf (wsV RX11 193 RX11 yX11_requireStep wsX11_requireStep) := goodIn_app (goodIn_of _ (by decide +kernel)) ggX11_startsOf_X11_requireStep
theorem dX11_startsOf_0 : decode cX11_startsOf 0 = .ok (.aload_n 0, 1) := by decide +kernel
theorem dX11_startsOf_1 : decode cX11_startsOf 1 = .ok (.iload_n 1, 1) := by decide +kernel
theorem dX11_startsOf_2 : decode cX11_startsOf 2 = .ok (.invokevirtual 193, 3) := by decide +kernel
theorem dX11_startsOf_5 : decode cX11_startsOf 5 = .ok (.aload_n 0, 1) := by decide +kernel
theorem dX11_startsOf_6 : decode cX11_startsOf 6 = .ok (.getfield 67, 3) := by decide +kernel
theorem dX11_startsOf_9 : decode cX11_startsOf 9 = .ok (.getfield 139, 3) := by decide +kernel
theorem dX11_startsOf_12 : decode cX11_startsOf 12 = .ok (.getfield 162, 3) := by decide +kernel
theorem dX11_startsOf_15 : decode cX11_startsOf 15 = .ok (.iload_n 1, 1) := by decide +kernel
theorem dX11_startsOf_16 : decode cX11_startsOf 16 = .ok (.iaload, 1) := by decide +kernel
theorem dX11_startsOf_17 : decode cX11_startsOf 17 = .ok (.ireturn, 1) := by decide +kernel
set_option maxRecDepth 20000 in
theorem ggX11_isTakenUp_X11_requireStep : GoodIn wsX11_isTakenUp wsX11_requireStep := goodIn_ca (goodIn_r _ [6, 7, 8, 1, 9, 10, 5, 11, 22, 23, 24, 25, 26, 27, 28, 29, 30, 31, 32, 33, 34, 35, 36, 37, 53, 54, 55, 56, 57, 58, 59, 60, 61, 62, 63, 64, 65, 66, 67, 68, 69, 70, 71, 72] rfl (by decide +kernel)) (goodIn_sub (fun _ h => List.mem_cons_of_mem _ (List.mem_append_right _ h)) (by decide +kernel))
set_option maxRecDepth 20000 in
theorem gX11_isTakenUp_X11_requireStep : GoodIn wsX11_isTakenUp (wsV RX11 193 RX11 yX11_requireStep wsX11_requireStep) := goodIn_app (goodIn_of _ (by decide +kernel)) ggX11_isTakenUp_X11_requireStep
set_option maxRecDepth 20000 in
theorem ggX11_isTakenUp_X11_contains : GoodIn wsX11_isTakenUp wsX11_contains := goodIn_r _ [14] rfl (by decide +kernel)
set_option maxRecDepth 20000 in
theorem gX11_isTakenUp_X11_contains : GoodIn wsX11_isTakenUp (va_wsS RX11 208 yX11_contains wsX11_contains) := goodIn_app (goodIn_of _ (by decide +kernel)) ggX11_isTakenUp_X11_contains
set_option maxRecDepth 20000 in
theorem ggX11_isTakenUp_X3_isContinued : GoodIn wsX11_isTakenUp wsX3_isContinued := goodIn_r _ [19, 20, 21, 33, 34, 35, 36, 37, 53, 54, 55, 56, 57, 58, 59, 60, 61, 62, 63, 64, 65, 66, 67, 68, 69, 38, 39, 40, 41, 42, 43, 44, 45, 46, 47, 48, 49, 50, 51, 52] rfl (by decide +kernel)
set_option maxRecDepth 20000 in
theorem gX11_isTakenUp_X3_isContinued : GoodIn wsX11_isTakenUp (wsV RX11 264 RX3 yX3_isContinued wsX3_isContinued) := goodIn_app (goodIn_of _ (by decide +kernel)) ggX11_isTakenUp_X3_isContinued
theorem dX11_isTakenUp_0 : decode cX11_isTakenUp 0 = .ok (.aload_n 0, 1) := by decide +kernel
theorem dX11_isTakenUp_1 : decode cX11_isTakenUp 1 = .ok (.iload_n 1, 1) := by decide +kernel
theorem dX11_isTakenUp_2 : decode cX11_isTakenUp 2 = .ok (.invokevirtual 193, 3) := by decide +kernel
theorem dX11_isTakenUp_5 : decode cX11_isTakenUp 5 = .ok (.aload_n 0, 1) := by decide +kernel
theorem dX11_isTakenUp_6 : decode cX11_isTakenUp 6 = .ok (.getfield 67, 3) := by decide +kernel
theorem dX11_isTakenUp_9 : decode cX11_isTakenUp 9 = .ok (.getfield 139, 3) := by decide +kernel
theorem dX11_isTakenUp_12 : decode cX11_isTakenUp 12 = .ok (.getfield 261, 3) := by decide +kernel
theorem dX11_isTakenUp_15 : decode cX11_isTakenUp 15 = .ok (.iload_n 1, 1) := by decide +kernel
theorem dX11_isTakenUp_16 : decode cX11_isTakenUp 16 = .ok (.invokestatic 208, 3) := by decide +kernel
theorem dX11_isTakenUp_19 : decode cX11_isTakenUp 19 = .ok (.ifCond .eq 18, 3) := by decide +kernel
theorem dX11_isTakenUp_22 : decode cX11_isTakenUp 22 = .ok (.aload_n 0, 1) := by decide +kernel
theorem dX11_isTakenUp_23 : decode cX11_isTakenUp 23 = .ok (.getfield 67, 3) := by decide +kernel
theorem dX11_isTakenUp_26 : decode cX11_isTakenUp 26 = .ok (.iload_n 1, 1) := by decide +kernel
theorem dX11_isTakenUp_27 : decode cX11_isTakenUp 27 = .ok (.invokevirtual 264, 3) := by decide +kernel
theorem dX11_isTakenUp_30 : decode cX11_isTakenUp 30 = .ok (.ifCond .eq 7, 3) := by decide +kernel
theorem dX11_isTakenUp_33 : decode cX11_isTakenUp 33 = .ok (.iconst 1, 1) := by decide +kernel
theorem dX11_isTakenUp_34 : decode cX11_isTakenUp 34 = .ok (.goto 4, 3) := by decide +kernel
theorem dX11_isTakenUp_37 : decode cX11_isTakenUp 37 = .ok (.iconst 0, 1) := by decide +kernel
theorem dX11_isTakenUp_38 : decode cX11_isTakenUp 38 = .ok (.ireturn, 1) := by decide +kernel
set_option maxRecDepth 20000 in
theorem ggX11_readyStep_X3_readyAt : GoodIn wsX11_readyStep wsX3_readyAt := goodIn_r _ [6, 7, 8, 9, 10, 11, 5, 12, 13, 14, 15, 16, 17, 18, 19, 20, 21, 22, 23, 24, 25, 26, 27, 28, 29, 30, 31, 43, 44, 45, 46, 47, 48, 49, 50, 51, 52, 53, 54, 55, 56, 57, 58, 59, 60, 61, 62, 63, 64, 65, 66, 67, 68, 69, 70, 71, 72, 73, 74, 75, 76, 77, 78, 79, 80, 81, 82] rfl (by decide +kernel)
set_option maxRecDepth 20000 in
theorem gX11_readyStep_X3_readyAt : GoodIn wsX11_readyStep (wsV RX11 268 RX3 yX3_readyAt wsX3_readyAt) := goodIn_app (goodIn_of _ (by decide +kernel)) ggX11_readyStep_X3_readyAt
theorem dX11_readyStep_0 : decode cX11_readyStep 0 = .ok (.aload_n 0, 1) := by decide +kernel
theorem dX11_readyStep_1 : decode cX11_readyStep 1 = .ok (.getfield 67, 3) := by decide +kernel
theorem dX11_readyStep_4 : decode cX11_readyStep 4 = .ok (.iload_n 1, 1) := by decide +kernel
theorem dX11_readyStep_5 : decode cX11_readyStep 5 = .ok (.invokevirtual 268, 3) := by decide +kernel
theorem dX11_readyStep_8 : decode cX11_readyStep 8 = .ok (.ireturn, 1) := by decide +kernel
set_option maxRecDepth 20000 in
theorem ggX11_whyNotRunning_X11_requireStep : GoodIn wsX11_whyNotRunning wsX11_requireStep := goodIn_ca (goodIn_r _ [6, 7, 8, 1, 9, 10, 5, 11, 40, 41, 42, 43, 44, 45, 46, 47, 48, 49, 50, 51, 52, 53, 54, 55, 56, 57, 58, 59, 60, 61, 62, 63, 64, 65, 66, 67, 68, 69, 70, 71, 72, 73, 74, 75] rfl (by decide +kernel)) (goodIn_sub (fun _ h => List.mem_cons_of_mem _ (List.mem_append_right _ h)) (by decide +kernel))
set_option maxRecDepth 20000 in
theorem gX11_whyNotRunning_X11_requireStep : GoodIn wsX11_whyNotRunning (wsV RX11 193 RX11 yX11_requireStep wsX11_requireStep) := goodIn_app (goodIn_of _ (by decide +kernel)) ggX11_whyNotRunning_X11_requireStep
set_option maxRecDepth 20000 in
theorem ggX11_whyNotRunning_X3_obstacle : GoodIn wsX11_whyNotRunning wsX3_obstacle := goodIn_r _ [16, 17, 18, 19, 5, 20, 21, 22, 23, 15, 24, 25, 26, 27, 28, 29, 30, 31, 32, 33, 34, 35, 36, 37, 38, 39, 51, 52, 53, 54, 55, 76, 77, 78, 79, 80, 81, 82, 83, 84, 85, 86, 87, 88, 89, 90, 56, 57, 58, 59, 60, 61, 62, 63, 64, 65, 66, 67, 68, 69, 70, 71, 72, 73, 74, 75] rfl (by decide +kernel)
set_option maxRecDepth 20000 in
theorem gX11_whyNotRunning_X3_obstacle : GoodIn wsX11_whyNotRunning (wsV RX11 271 RX3 yX3_obstacle wsX3_obstacle) := goodIn_app (goodIn_of _ (by decide +kernel)) ggX11_whyNotRunning_X3_obstacle
theorem dX11_whyNotRunning_0 : decode cX11_whyNotRunning 0 = .ok (.aload_n 0, 1) := by decide +kernel
theorem dX11_whyNotRunning_1 : decode cX11_whyNotRunning 1 = .ok (.iload_n 1, 1) := by decide +kernel
theorem dX11_whyNotRunning_2 : decode cX11_whyNotRunning 2 = .ok (.invokevirtual 193, 3) := by decide +kernel
theorem dX11_whyNotRunning_5 : decode cX11_whyNotRunning 5 = .ok (.aload_n 0, 1) := by decide +kernel
theorem dX11_whyNotRunning_6 : decode cX11_whyNotRunning 6 = .ok (.getfield 67, 3) := by decide +kernel
theorem dX11_whyNotRunning_9 : decode cX11_whyNotRunning 9 = .ok (.iload_n 1, 1) := by decide +kernel
theorem dX11_whyNotRunning_10 : decode cX11_whyNotRunning 10 = .ok (.invokevirtual 271, 3) := by decide +kernel
theorem dX11_whyNotRunning_13 : decode cX11_whyNotRunning 13 = .ok (.ireturn, 1) := by decide +kernel
set_option maxRecDepth 20000 in
theorem ggX11_blockingStep_X11_requireStep : GoodIn wsX11_blockingStep wsX11_requireStep := goodIn_ca (goodIn_r _ [6, 7, 8, 1, 9, 10, 5, 11, 51, 52, 53, 54, 55, 56, 57, 58, 59, 60, 61, 62, 63, 64, 65, 66, 67, 68, 69, 70, 71, 72, 73, 74, 75, 76, 77, 78, 79, 80, 81, 82, 83, 84, 85, 86] rfl (by decide +kernel)) (goodIn_sub (fun _ h => List.mem_cons_of_mem _ (List.mem_append_right _ h)) (by decide +kernel))
set_option maxRecDepth 20000 in
theorem gX11_blockingStep_X11_requireStep : GoodIn wsX11_blockingStep (wsV RX11 193 RX11 yX11_requireStep wsX11_requireStep) := goodIn_app (goodIn_of _ (by decide +kernel)) ggX11_blockingStep_X11_requireStep
set_option maxRecDepth 20000 in
theorem ggX11_blockingStep_X3_blocker : GoodIn wsX11_blockingStep wsX3_blocker := goodIn_r _ [16, 17, 18, 19, 20, 21, 15, 22, 23, 5, 24, 25, 26, 27, 28, 29, 30, 31, 32, 33, 34, 35, 36, 37, 38, 39, 40, 41, 42, 43, 44, 45, 46, 47, 48, 49, 50, 62, 63, 64, 65, 66, 67, 68, 69, 70, 71, 72, 73, 74, 75, 76, 77, 78, 79, 80, 81, 82, 83, 87, 88, 89, 90, 91, 92, 93, 94, 95, 96, 97, 98, 99, 100, 101, 84, 85, 86] rfl (by decide +kernel)
set_option maxRecDepth 20000 in
theorem gX11_blockingStep_X3_blocker : GoodIn wsX11_blockingStep (wsV RX11 274 RX3 yX3_blocker wsX3_blocker) := goodIn_app (goodIn_of _ (by decide +kernel)) ggX11_blockingStep_X3_blocker
theorem dX11_blockingStep_0 : decode cX11_blockingStep 0 = .ok (.aload_n 0, 1) := by decide +kernel
theorem dX11_blockingStep_1 : decode cX11_blockingStep 1 = .ok (.iload_n 1, 1) := by decide +kernel
theorem dX11_blockingStep_2 : decode cX11_blockingStep 2 = .ok (.invokevirtual 193, 3) := by decide +kernel
theorem dX11_blockingStep_5 : decode cX11_blockingStep 5 = .ok (.aload_n 0, 1) := by decide +kernel
theorem dX11_blockingStep_6 : decode cX11_blockingStep 6 = .ok (.getfield 67, 3) := by decide +kernel
theorem dX11_blockingStep_9 : decode cX11_blockingStep 9 = .ok (.iload_n 1, 1) := by decide +kernel
theorem dX11_blockingStep_10 : decode cX11_blockingStep 10 = .ok (.invokevirtual 274, 3) := by decide +kernel
theorem dX11_blockingStep_13 : decode cX11_blockingStep 13 = .ok (.ireturn, 1) := by decide +kernel
set_option maxRecDepth 20000 in
theorem ggX11_rootBlocker_X11_requireStep : GoodIn wsX11_rootBlocker wsX11_requireStep := goodIn_ca (goodIn_r _ [6, 7, 8, 1, 9, 10, 5, 11, 48, 49, 50, 51, 52, 53, 54, 55, 56, 57, 58, 59, 60, 61, 62, 63, 64, 65, 66, 67, 68, 69, 70, 71, 72, 73, 74, 75, 76, 77, 78, 79, 80, 81, 82, 83] rfl (by decide +kernel)) (goodIn_sub (fun _ h => List.mem_cons_of_mem _ (List.mem_append_right _ h)) (by decide +kernel))
set_option maxRecDepth 20000 in
theorem gX11_rootBlocker_X11_requireStep : GoodIn wsX11_rootBlocker (wsV RX11 193 RX11 yX11_requireStep wsX11_requireStep) := goodIn_app (goodIn_of _ (by decide +kernel)) ggX11_rootBlocker_X11_requireStep
set_option maxRecDepth 20000 in
theorem ggX11_rootBlocker_X3_deepestMissing : GoodIn wsX11_rootBlocker wsX3_deepestMissing := goodIn_r _ [16, 17, 18, 19, 15, 20, 21, 22, 23, 5, 24, 25, 26, 27, 28, 29, 30, 31, 32, 33, 34, 35, 36, 37, 38, 39, 40, 41, 42, 43, 44, 45, 46, 47, 59, 60, 61, 62, 63, 84, 85, 86, 87, 88, 89, 90, 91, 92, 93, 94, 95, 96, 97, 98, 64, 65, 66, 67, 68, 69, 70, 71, 72, 73, 74, 75, 76, 77, 78, 79, 80, 81, 82, 83] rfl (by decide +kernel)
set_option maxRecDepth 20000 in
theorem gX11_rootBlocker_X3_deepestMissing : GoodIn wsX11_rootBlocker (wsV RX11 277 RX3 yX3_deepestMissing wsX3_deepestMissing) := goodIn_app (goodIn_of _ (by decide +kernel)) ggX11_rootBlocker_X3_deepestMissing
theorem dX11_rootBlocker_0 : decode cX11_rootBlocker 0 = .ok (.aload_n 0, 1) := by decide +kernel
theorem dX11_rootBlocker_1 : decode cX11_rootBlocker 1 = .ok (.iload_n 1, 1) := by decide +kernel
theorem dX11_rootBlocker_2 : decode cX11_rootBlocker 2 = .ok (.invokevirtual 193, 3) := by decide +kernel
theorem dX11_rootBlocker_5 : decode cX11_rootBlocker 5 = .ok (.aload_n 0, 1) := by decide +kernel
theorem dX11_rootBlocker_6 : decode cX11_rootBlocker 6 = .ok (.getfield 67, 3) := by decide +kernel
theorem dX11_rootBlocker_9 : decode cX11_rootBlocker 9 = .ok (.iload_n 1, 1) := by decide +kernel
theorem dX11_rootBlocker_10 : decode cX11_rootBlocker 10 = .ok (.invokevirtual 277, 3) := by decide +kernel
theorem dX11_rootBlocker_13 : decode cX11_rootBlocker 13 = .ok (.ireturn, 1) := by decide +kernel
set_option maxRecDepth 20000 in
theorem ggX11_whyNotServed_X3_servingObstacle : GoodIn wsX11_whyNotServed wsX3_servingObstacle := goodIn_r _ [6, 7, 8, 9, 10, 11, 12, 13, 14, 15, 16, 17, 5, 18, 19, 20, 21, 33, 34, 35, 36, 37, 38, 39, 40, 41, 42, 43, 44, 45, 46, 47, 48, 49, 50, 51, 52, 53, 54, 55, 56, 57, 58, 59, 60, 61, 62, 63, 64, 65, 66, 67, 68, 69, 70, 71, 72] rfl (by decide +kernel)
set_option maxRecDepth 20000 in
theorem gX11_whyNotServed_X3_servingObstacle : GoodIn wsX11_whyNotServed (wsV RX11 280 RX3 yX3_servingObstacle wsX3_servingObstacle) := goodIn_app (goodIn_of _ (by decide +kernel)) ggX11_whyNotServed_X3_servingObstacle
theorem dX11_whyNotServed_0 : decode cX11_whyNotServed 0 = .ok (.aload_n 0, 1) := by decide +kernel
theorem dX11_whyNotServed_1 : decode cX11_whyNotServed 1 = .ok (.getfield 67, 3) := by decide +kernel
theorem dX11_whyNotServed_4 : decode cX11_whyNotServed 4 = .ok (.invokevirtual 280, 3) := by decide +kernel
theorem dX11_whyNotServed_7 : decode cX11_whyNotServed 7 = .ok (.ireturn, 1) := by decide +kernel
set_option maxRecDepth 20000 in
theorem ggX11_criticalStep_X3_criticalAt : GoodIn wsX11_criticalStep wsX3_criticalAt := goodIn_r _ [6, 7, 8, 9, 10, 11, 12, 13, 5, 14, 15, 16, 17, 18, 19, 20, 21, 22, 23, 24, 25, 26, 27, 28, 29, 41, 42, 43, 44, 45, 46, 47, 48, 49, 50, 51, 52, 53, 54, 55, 56, 57, 58, 59, 60, 61, 62, 63, 64, 65, 66, 67, 68, 69, 70, 71, 72, 73, 74, 75, 76, 77, 78, 79, 80] rfl (by decide +kernel)
set_option maxRecDepth 20000 in
theorem gX11_criticalStep_X3_criticalAt : GoodIn wsX11_criticalStep (wsV RX11 283 RX3 yX3_criticalAt wsX3_criticalAt) := goodIn_app (goodIn_of _ (by decide +kernel)) ggX11_criticalStep_X3_criticalAt
theorem dX11_criticalStep_0 : decode cX11_criticalStep 0 = .ok (.aload_n 0, 1) := by decide +kernel
theorem dX11_criticalStep_1 : decode cX11_criticalStep 1 = .ok (.getfield 67, 3) := by decide +kernel
theorem dX11_criticalStep_4 : decode cX11_criticalStep 4 = .ok (.iload_n 1, 1) := by decide +kernel
theorem dX11_criticalStep_5 : decode cX11_criticalStep 5 = .ok (.invokevirtual 283, 3) := by decide +kernel
theorem dX11_criticalStep_8 : decode cX11_criticalStep 8 = .ok (.ireturn, 1) := by decide +kernel
set_option maxRecDepth 20000 in
theorem ggX11_slack_X11_requireStep : GoodIn wsX11_slack wsX11_requireStep := goodIn_ca (goodIn_r _ [6, 7, 8, 1, 9, 10, 5, 11, 36, 37, 38, 39, 40, 41, 42, 43, 44, 45, 46, 47, 48, 49, 50, 51, 52, 53, 54, 55, 56, 57, 58, 59, 60, 61, 62, 63, 64, 65, 66, 67, 68, 69, 70, 71] rfl (by decide +kernel)) (goodIn_sub (fun _ h => List.mem_cons_of_mem _ (List.mem_append_right _ h)) (by decide +kernel))
set_option maxRecDepth 20000 in
theorem gX11_slack_X11_requireStep : GoodIn wsX11_slack (wsV RX11 193 RX11 yX11_requireStep wsX11_requireStep) := goodIn_app (goodIn_of _ (by decide +kernel)) ggX11_slack_X11_requireStep
set_option maxRecDepth 20000 in
theorem ggX11_slack_X3_spareMinutes : GoodIn wsX11_slack wsX3_spareMinutes := goodIn_r _ [16, 17, 18, 19, 20, 21, 22, 23, 24, 25, 26, 27, 28, 15, 29, 30, 31, 32, 33, 34, 5, 35, 47, 48, 49, 50, 51, 52, 53, 54, 55, 56, 57, 58, 59, 60, 61, 62, 63, 64, 65, 66, 67, 68, 72, 73, 74, 75, 76, 77, 78, 79, 80, 81, 82, 83, 84, 85, 86, 69, 70, 71] rfl (by decide +kernel)
set_option maxRecDepth 20000 in
theorem gX11_slack_X3_spareMinutes : GoodIn wsX11_slack (wsV RX11 286 RX3 yX3_spareMinutes wsX3_spareMinutes) := goodIn_app (goodIn_of _ (by decide +kernel)) ggX11_slack_X3_spareMinutes
theorem dX11_slack_0 : decode cX11_slack 0 = .ok (.aload_n 0, 1) := by decide +kernel
theorem dX11_slack_1 : decode cX11_slack 1 = .ok (.iload_n 1, 1) := by decide +kernel
theorem dX11_slack_2 : decode cX11_slack 2 = .ok (.invokevirtual 193, 3) := by decide +kernel
theorem dX11_slack_5 : decode cX11_slack 5 = .ok (.aload_n 0, 1) := by decide +kernel
theorem dX11_slack_6 : decode cX11_slack 6 = .ok (.getfield 67, 3) := by decide +kernel
theorem dX11_slack_9 : decode cX11_slack 9 = .ok (.iload_n 1, 1) := by decide +kernel
theorem dX11_slack_10 : decode cX11_slack 10 = .ok (.invokevirtual 286, 3) := by decide +kernel
theorem dX11_slack_13 : decode cX11_slack 13 = .ok (.ireturn, 1) := by decide +kernel
set_option maxRecDepth 20000 in
theorem ggX11_minutesToFinish_X3_copyFrom : GoodIn wsX11_minutesToFinish wsX3_copyFrom := goodIn_r _ [7, 8, 9, 10, 11, 12, 13, 14, 15, 16, 17, 18, 19, 20, 21, 22, 23, 24, 25, 26, 27, 28, 29, 30, 31, 32, 33, 123, 124, 125, 126, 127, 128, 129, 130, 131, 132, 133, 134, 135, 136, 137, 138, 139, 140, 141, 142] rfl (by decide +kernel)
set_option maxRecDepth 20000 in
theorem gX11_minutesToFinish_X3_copyFrom : GoodIn wsX11_minutesToFinish (wsV RX11 289 RX3 yX3_copyFrom wsX3_copyFrom) := goodIn_app (goodIn_of _ (by decide +kernel)) ggX11_minutesToFinish_X3_copyFrom
set_option maxRecDepth 20000 in
theorem ggX11_minutesToFinish_X3_runToFinish : GoodIn wsX11_minutesToFinish wsX3_runToFinish := goodIn_r _ [37, 9, 8, 38, 39, 40, 6, 41, 42, 43, 44, 45, 46, 47, 48, 49, 50, 51, 52, 53, 54, 55, 56, 57, 58, 59, 60, 61, 62, 63, 64, 65, 66, 67, 68, 69, 70, 71, 72, 73, 74, 13, 75, 21, 22, 32, 76, 77, 78, 79, 80, 81, 82, 83, 84, 85, 86, 87, 23, 30, 33, 88, 89, 90, 91, 92, 93, 94, 95, 96, 97, 98, 99, 100, 101, 102, 103, 104, 105, 106, 107, 108, 109, 110, 111, 29, 24, 31, 123, 124, 125, 126, 127, 128, 129, 130, 131, 132, 133, 134, 135, 136, 137, 138, 139, 140, 141, 142, 143, 144, 145, 146, 147, 148, 149, 150, 151, 152, 153, 154, 155, 156, 157, 158, 159, 160, 161, 162] rfl (by decide +kernel)
set_option maxRecDepth 20000 in
theorem gX11_minutesToFinish_X3_runToFinish : GoodIn wsX11_minutesToFinish (wsV RX11 293 RX3 yX3_runToFinish wsX3_runToFinish) := goodIn_app (goodIn_of _ (by decide +kernel)) ggX11_minutesToFinish_X3_runToFinish
theorem dX11_minutesToFinish_0 : decode cX11_minutesToFinish 0 = .ok (.aload_n 0, 1) := by decide +kernel
theorem dX11_minutesToFinish_1 : decode cX11_minutesToFinish 1 = .ok (.getfield 71, 3) := by decide +kernel
theorem dX11_minutesToFinish_4 : decode cX11_minutesToFinish 4 = .ok (.aload_n 0, 1) := by decide +kernel
theorem dX11_minutesToFinish_5 : decode cX11_minutesToFinish 5 = .ok (.getfield 67, 3) := by decide +kernel
theorem dX11_minutesToFinish_8 : decode cX11_minutesToFinish 8 = .ok (.invokevirtual 289, 3) := by decide +kernel
theorem dX11_minutesToFinish_11 : decode cX11_minutesToFinish 11 = .ok (.aload_n 0, 1) := by decide +kernel
theorem dX11_minutesToFinish_12 : decode cX11_minutesToFinish 12 = .ok (.getfield 71, 3) := by decide +kernel
theorem dX11_minutesToFinish_15 : decode cX11_minutesToFinish 15 = .ok (.invokevirtual 293, 3) := by decide +kernel
theorem dX11_minutesToFinish_18 : decode cX11_minutesToFinish 18 = .ok (.ireturn, 1) := by decide +kernel
set_option maxRecDepth 20000 in
theorem ggX11_statusAfter_X11_requireStep : GoodIn wsX11_statusAfter wsX11_requireStep := goodIn_ca (goodIn_r _ [9, 10, 11, 4, 12, 13, 8, 14, 127, 128, 129, 130, 131, 132, 133, 134, 135, 136, 137, 138, 139, 140, 141, 142, 143, 144, 145, 146, 147, 148, 149, 150, 151, 152, 153, 154, 155, 156, 157, 158, 159, 160, 161, 162] rfl (by decide +kernel)) (goodIn_sub (fun _ h => List.mem_cons_of_mem _ (List.mem_append_right _ h)) (by decide +kernel))
set_option maxRecDepth 20000 in
theorem gX11_statusAfter_X11_requireStep : GoodIn wsX11_statusAfter (wsV RX11 193 RX11 yX11_requireStep wsX11_requireStep) := goodIn_app (goodIn_of _ (by decide +kernel)) ggX11_statusAfter_X11_requireStep
set_option maxRecDepth 20000 in
theorem ggX11_statusAfter_X11_isWithin : GoodIn wsX11_statusAfter wsX11_isWithin := goodIn_r _ [14] rfl (by decide +kernel)
set_option maxRecDepth 20000 in
theorem gX11_statusAfter_X11_isWithin : GoodIn wsX11_statusAfter (va_wsS RX11 105 yX11_isWithin wsX11_isWithin) := goodIn_app (goodIn_of _ (by decide +kernel)) ggX11_statusAfter_X11_isWithin
set_option maxRecDepth 20000 in
theorem ggX11_statusAfter_X3_copyFrom : GoodIn wsX11_statusAfter wsX3_copyFrom := goodIn_r _ [19, 20, 21, 22, 23, 24, 25, 26, 27, 28, 29, 30, 31, 32, 33, 34, 35, 36, 37, 38, 39, 40, 41, 42, 43, 44, 45, 138, 139, 140, 141, 142, 163, 164, 165, 166, 167, 168, 169, 170, 171, 172, 173, 174, 175, 176, 177] rfl (by decide +kernel)
set_option maxRecDepth 20000 in
theorem gX11_statusAfter_X3_copyFrom : GoodIn wsX11_statusAfter (wsV RX11 289 RX3 yX3_copyFrom wsX3_copyFrom) := goodIn_app (goodIn_of _ (by decide +kernel)) ggX11_statusAfter_X3_copyFrom
set_option maxRecDepth 20000 in
theorem ggX11_statusAfter_X3_runMinutes : GoodIn wsX11_statusAfter wsX3_runMinutes := goodIn_r _ [49, 50, 51, 52, 18, 53, 20, 54, 21, 55, 56, 57, 58, 59, 60, 8, 61, 62, 63, 64, 65, 66, 67, 68, 69, 70, 71, 72, 73, 74, 75, 76, 77, 78, 79, 25, 80, 33, 34, 44, 81, 82, 83, 84, 85, 86, 87, 88, 89, 90, 91, 92, 35, 42, 45, 93, 94, 95, 96, 97, 98, 99, 100, 101, 102, 103, 104, 105, 106, 107, 108, 109, 110, 111, 112, 113, 114, 115, 116, 117, 118, 119, 120, 121, 122, 41, 36, 43, 138, 139, 140, 141, 142, 143, 144, 145, 146, 147, 148, 149, 150, 151, 152, 153, 154, 155, 156, 157, 158, 159, 160, 161, 162, 163, 164, 165, 166, 167, 168, 169, 170, 171, 172, 173, 174, 175, 176, 177] rfl (by decide +kernel)
set_option maxRecDepth 20000 in
theorem gX11_statusAfter_X3_runMinutes : GoodIn wsX11_statusAfter (wsV RX11 298 RX3 yX3_runMinutes wsX3_runMinutes) := goodIn_app (goodIn_of _ (by decide +kernel)) ggX11_statusAfter_X3_runMinutes
set_option maxRecDepth 20000 in
theorem ggX11_statusAfter_X8_statusOf : GoodIn wsX11_statusAfter wsX8_statusOf := goodIn_r _ [126, 33, 34, 35, 60, 8, 61, 163, 164, 165, 166, 167, 168, 169, 170, 171, 172, 173, 174, 175, 176, 177] rfl (by decide +kernel)
set_option maxRecDepth 20000 in
theorem gX11_statusAfter_X8_statusOf : GoodIn wsX11_statusAfter (wsV RX11 158 RX8 yX8_statusOf wsX8_statusOf) := goodIn_app (goodIn_of _ (by decide +kernel)) ggX11_statusAfter_X8_statusOf
theorem dX11_statusAfter_0 : decode cX11_statusAfter 0 = .ok (.aload_n 0, 1) := by decide +kernel
theorem dX11_statusAfter_1 : decode cX11_statusAfter 1 = .ok (.iload_n 1, 1) := by decide +kernel
theorem dX11_statusAfter_2 : decode cX11_statusAfter 2 = .ok (.invokevirtual 193, 3) := by decide +kernel
theorem dX11_statusAfter_5 : decode cX11_statusAfter 5 = .ok (.iload_n 2, 1) := by decide +kernel
theorem dX11_statusAfter_6 : decode cX11_statusAfter 6 = .ok (.iconst 0, 1) := by decide +kernel
theorem dX11_statusAfter_7 : decode cX11_statusAfter 7 = .ok (.sipush 500, 3) := by decide +kernel
theorem dX11_statusAfter_10 : decode cX11_statusAfter 10 = .ok (.invokestatic 105, 3) := by decide +kernel
theorem dX11_statusAfter_13 : decode cX11_statusAfter 13 = .ok (.ifCond .ne 14, 3) := by decide +kernel
theorem dX11_statusAfter_16 : decode cX11_statusAfter 16 = .ok (.new 109, 3) := by decide +kernel
theorem dX11_statusAfter_19 : decode cX11_statusAfter 19 = .ok (.dup, 1) := by decide +kernel
theorem dX11_statusAfter_20 : decode cX11_statusAfter 20 = .ok (.ldc_w 296, 3) := by decide +kernel
theorem dX11_statusAfter_23 : decode cX11_statusAfter 23 = .ok (.invokespecial 113, 3) := by decide +kernel
theorem dX11_statusAfter_26 : decode cX11_statusAfter 26 = .ok (.athrow, 1) := by decide +kernel
theorem dX11_statusAfter_27 : decode cX11_statusAfter 27 = .ok (.aload_n 0, 1) := by decide +kernel
theorem dX11_statusAfter_28 : decode cX11_statusAfter 28 = .ok (.getfield 71, 3) := by decide +kernel
theorem dX11_statusAfter_31 : decode cX11_statusAfter 31 = .ok (.aload_n 0, 1) := by decide +kernel
theorem dX11_statusAfter_32 : decode cX11_statusAfter 32 = .ok (.getfield 67, 3) := by decide +kernel
theorem dX11_statusAfter_35 : decode cX11_statusAfter 35 = .ok (.invokevirtual 289, 3) := by decide +kernel
theorem dX11_statusAfter_38 : decode cX11_statusAfter 38 = .ok (.aload_n 0, 1) := by decide +kernel
theorem dX11_statusAfter_39 : decode cX11_statusAfter 39 = .ok (.getfield 71, 3) := by decide +kernel
theorem dX11_statusAfter_42 : decode cX11_statusAfter 42 = .ok (.iload_n 2, 1) := by decide +kernel
theorem dX11_statusAfter_43 : decode cX11_statusAfter 43 = .ok (.invokevirtual 298, 3) := by decide +kernel
theorem dX11_statusAfter_46 : decode cX11_statusAfter 46 = .ok (.pop, 1) := by decide +kernel
theorem dX11_statusAfter_47 : decode cX11_statusAfter 47 = .ok (.aload_n 0, 1) := by decide +kernel
theorem dX11_statusAfter_48 : decode cX11_statusAfter 48 = .ok (.getfield 71, 3) := by decide +kernel
theorem dX11_statusAfter_51 : decode cX11_statusAfter 51 = .ok (.getfield 139, 3) := by decide +kernel
theorem dX11_statusAfter_54 : decode cX11_statusAfter 54 = .ok (.iload_n 1, 1) := by decide +kernel
theorem dX11_statusAfter_55 : decode cX11_statusAfter 55 = .ok (.invokevirtual 158, 3) := by decide +kernel
theorem dX11_statusAfter_58 : decode cX11_statusAfter 58 = .ok (.ireturn, 1) := by decide +kernel
set_option maxRecDepth 20000 in
theorem ggX11_minutesToBurn_X11_requireStep : GoodIn wsX11_minutesToBurn wsX11_requireStep := goodIn_ca (goodIn_r _ [7, 8, 9, 2, 10, 11, 6, 12, 121, 122, 123, 124, 125, 126, 127, 128, 129, 130, 131, 132, 133, 134, 135, 136, 137, 138, 139, 140, 141, 142, 143, 144, 145, 146, 147, 148, 149, 150, 151, 152, 153, 154, 155, 156] rfl (by decide +kernel)) (goodIn_sub (fun _ h => List.mem_cons_of_mem _ (List.mem_append_right _ h)) (by decide +kernel))
set_option maxRecDepth 20000 in
theorem gX11_minutesToBurn_X11_requireStep : GoodIn wsX11_minutesToBurn (wsV RX11 193 RX11 yX11_requireStep wsX11_requireStep) := goodIn_app (goodIn_of _ (by decide +kernel)) ggX11_minutesToBurn_X11_requireStep
set_option maxRecDepth 20000 in
theorem ggX11_minutesToBurn_X3_copyFrom : GoodIn wsX11_minutesToBurn wsX3_copyFrom := goodIn_r _ [17, 18, 19, 20, 21, 22, 23, 24, 25, 26, 27, 28, 29, 30, 31, 32, 33, 34, 35, 36, 37, 38, 39, 40, 41, 42, 43, 132, 133, 134, 135, 136, 157, 158, 159, 160, 161, 162, 163, 164, 165, 166, 167, 168, 169, 170, 171] rfl (by decide +kernel)
set_option maxRecDepth 20000 in
theorem gX11_minutesToBurn_X3_copyFrom : GoodIn wsX11_minutesToBurn (wsV RX11 289 RX3 yX3_copyFrom wsX3_copyFrom) := goodIn_app (goodIn_of _ (by decide +kernel)) ggX11_minutesToBurn_X3_copyFrom
set_option maxRecDepth 20000 in
theorem ggX11_minutesToBurn_X3_runToBurn : GoodIn wsX11_minutesToBurn wsX3_runToBurn := goodIn_r _ [47, 19, 48, 49, 50, 16, 51, 18, 52, 53, 54, 55, 56, 57, 58, 6, 59, 60, 61, 62, 63, 64, 65, 66, 67, 68, 69, 70, 71, 72, 73, 74, 75, 76, 77, 23, 78, 31, 32, 42, 79, 80, 81, 82, 83, 84, 85, 86, 87, 88, 89, 90, 33, 40, 43, 91, 92, 93, 94, 95, 96, 97, 98, 99, 100, 101, 102, 103, 104, 105, 106, 107, 108, 109, 110, 111, 112, 113, 114, 115, 116, 117, 118, 119, 120, 39, 34, 41, 132, 133, 134, 135, 136, 157, 158, 159, 160, 161, 162, 163, 164, 165, 166, 167, 168, 169, 170, 171, 137, 138, 139, 140, 141, 142, 143, 144, 145, 146, 147, 148, 149, 150, 151, 152, 153, 154, 155, 156] rfl (by decide +kernel)
set_option maxRecDepth 20000 in
theorem gX11_minutesToBurn_X3_runToBurn : GoodIn wsX11_minutesToBurn (wsV RX11 301 RX3 yX3_runToBurn wsX3_runToBurn) := goodIn_app (goodIn_of _ (by decide +kernel)) ggX11_minutesToBurn_X3_runToBurn
theorem dX11_minutesToBurn_0 : decode cX11_minutesToBurn 0 = .ok (.aload_n 0, 1) := by decide +kernel
theorem dX11_minutesToBurn_1 : decode cX11_minutesToBurn 1 = .ok (.iload_n 1, 1) := by decide +kernel
theorem dX11_minutesToBurn_2 : decode cX11_minutesToBurn 2 = .ok (.invokevirtual 193, 3) := by decide +kernel
theorem dX11_minutesToBurn_5 : decode cX11_minutesToBurn 5 = .ok (.aload_n 0, 1) := by decide +kernel
theorem dX11_minutesToBurn_6 : decode cX11_minutesToBurn 6 = .ok (.getfield 71, 3) := by decide +kernel
theorem dX11_minutesToBurn_9 : decode cX11_minutesToBurn 9 = .ok (.aload_n 0, 1) := by decide +kernel
theorem dX11_minutesToBurn_10 : decode cX11_minutesToBurn 10 = .ok (.getfield 67, 3) := by decide +kernel
theorem dX11_minutesToBurn_13 : decode cX11_minutesToBurn 13 = .ok (.invokevirtual 289, 3) := by decide +kernel
theorem dX11_minutesToBurn_16 : decode cX11_minutesToBurn 16 = .ok (.aload_n 0, 1) := by decide +kernel
theorem dX11_minutesToBurn_17 : decode cX11_minutesToBurn 17 = .ok (.getfield 71, 3) := by decide +kernel
theorem dX11_minutesToBurn_20 : decode cX11_minutesToBurn 20 = .ok (.iload_n 1, 1) := by decide +kernel
theorem dX11_minutesToBurn_21 : decode cX11_minutesToBurn 21 = .ok (.invokevirtual 301, 3) := by decide +kernel
theorem dX11_minutesToBurn_24 : decode cX11_minutesToBurn 24 = .ok (.ireturn, 1) := by decide +kernel
set_option maxRecDepth 20000 in
theorem ggX11_minutesWithCooks_X11_requireCooks : GoodIn wsX11_minutesWithCooks wsX11_requireCooks := goodIn_ca (goodIn_r _ [5, 6, 7, 8, 9, 10, 4, 11, 12, 13, 14] rfl (by decide +kernel)) (goodIn_sub (fun _ h => List.mem_cons_of_mem _ (List.mem_append_right _ h)) (by decide +kernel))
set_option maxRecDepth 20000 in
theorem gX11_minutesWithCooks_X11_requireCooks : GoodIn wsX11_minutesWithCooks (wsV RX11 304 RX11 yX11_requireCooks wsX11_requireCooks) := goodIn_app (goodIn_of _ (by decide +kernel)) ggX11_minutesWithCooks_X11_requireCooks
set_option maxRecDepth 20000 in
theorem ggX11_minutesWithCooks_X11_finishWithCooks : GoodIn wsX11_minutesWithCooks wsX11_finishWithCooks := goodIn_r _ [18, 19, 20, 21, 22, 23, 24, 25, 26, 27, 28, 29, 30, 31, 32, 33, 34, 35, 36, 37, 38, 39, 40, 41, 42, 43, 44, 45, 46, 47, 48, 49, 50, 51, 52, 53, 54, 55, 56, 57, 58, 59, 60, 61, 62, 63, 64, 65, 66, 4, 67, 68, 69, 70, 71, 72, 73, 74, 75, 76, 77, 78, 79, 80, 81, 82, 83, 84, 85, 86, 87, 88, 89, 90, 91, 92, 93, 94, 95, 96, 97, 98, 99, 100, 101, 102, 103, 104, 105, 106, 107, 108, 109, 110, 111, 112, 113, 114, 115, 116, 117, 118, 119, 120, 121, 122, 123, 124, 125, 126, 127, 128, 129, 130, 131, 132, 133, 134, 135, 136, 137, 138, 139, 140, 141, 142, 143, 144, 145, 146, 147, 148, 149, 150, 151, 152, 153, 154, 155, 156, 157, 158, 159, 160, 161, 162, 163, 164, 165, 166, 167, 168, 169, 170, 171, 172, 173, 174, 175, 176, 177, 178, 179] rfl (by decide +kernel)
set_option maxRecDepth 20000 in
theorem gX11_minutesWithCooks_X11_finishWithCooks : GoodIn wsX11_minutesWithCooks (wsV RX11 307 RX11 yX11_finishWithCooks wsX11_finishWithCooks) := goodIn_app (goodIn_of _ (by decide +kernel)) ggX11_minutesWithCooks_X11_finishWithCooks
theorem dX11_minutesWithCooks_0 : decode cX11_minutesWithCooks 0 = .ok (.aload_n 0, 1) := by decide +kernel
theorem dX11_minutesWithCooks_1 : decode cX11_minutesWithCooks 1 = .ok (.iload_n 1, 1) := by decide +kernel
theorem dX11_minutesWithCooks_2 : decode cX11_minutesWithCooks 2 = .ok (.invokevirtual 304, 3) := by decide +kernel
theorem dX11_minutesWithCooks_5 : decode cX11_minutesWithCooks 5 = .ok (.aload_n 0, 1) := by decide +kernel
theorem dX11_minutesWithCooks_6 : decode cX11_minutesWithCooks 6 = .ok (.iload_n 1, 1) := by decide +kernel
theorem dX11_minutesWithCooks_7 : decode cX11_minutesWithCooks 7 = .ok (.invokevirtual 307, 3) := by decide +kernel
theorem dX11_minutesWithCooks_10 : decode cX11_minutesWithCooks 10 = .ok (.ireturn, 1) := by decide +kernel
set_option maxRecDepth 20000 in
theorem ggX11_fewestCooks_X11_finishWithCooks : GoodIn wsX11_fewestCooks wsX11_finishWithCooks := goodIn_r _ [5, 6, 7, 8, 9, 10, 11, 12, 13, 14, 15, 16, 17, 18, 19, 20, 21, 22, 23, 24, 25, 26, 27, 28, 29, 30, 31, 32, 33, 34, 35, 36, 37, 38, 39, 40, 41, 42, 43, 44, 45, 46, 47, 48, 49, 50, 51, 52, 53, 4, 54, 55, 56, 57, 58, 59, 60, 61, 62, 63, 64, 65, 66, 67, 68, 69, 70, 71, 72, 73, 74, 75, 76, 77, 78, 79, 80, 81, 82, 83, 84, 85, 86, 87, 88, 89, 90, 91, 92, 93, 94, 95, 96, 97, 98, 99, 100, 101, 102, 103, 104, 105, 106, 107, 108, 109, 110, 111, 112, 113, 114, 115, 116, 117, 118, 119, 120, 121, 122, 123, 124, 125, 126, 127, 128, 129, 130, 131, 132, 133, 134, 135, 136, 137, 138, 139, 140, 141, 142, 143, 144, 145, 146, 147, 148, 149, 150, 151, 152, 153, 154, 155, 156, 157, 158, 159, 160, 161, 162, 163, 164, 165, 166] rfl (by decide +kernel)
set_option maxRecDepth 20000 in
theorem gX11_fewestCooks_X11_finishWithCooks : GoodIn wsX11_fewestCooks (wsV RX11 307 RX11 yX11_finishWithCooks wsX11_finishWithCooks) := goodIn_app (goodIn_of _ (by decide +kernel)) ggX11_fewestCooks_X11_finishWithCooks
theorem dX11_fewestCooks_0 : decode cX11_fewestCooks 0 = .ok (.aload_n 0, 1) := by decide +kernel
theorem dX11_fewestCooks_1 : decode cX11_fewestCooks 1 = .ok (.iconst 4, 1) := by decide +kernel
theorem dX11_fewestCooks_2 : decode cX11_fewestCooks 2 = .ok (.invokevirtual 307, 3) := by decide +kernel
theorem dX11_fewestCooks_5 : decode cX11_fewestCooks 5 = .ok (.istore_n 1, 1) := by decide +kernel
theorem dX11_fewestCooks_6 : decode cX11_fewestCooks 6 = .ok (.iconst 1, 1) := by decide +kernel
theorem dX11_fewestCooks_7 : decode cX11_fewestCooks 7 = .ok (.istore_n 2, 1) := by decide +kernel
theorem dX11_fewestCooks_8 : decode cX11_fewestCooks 8 = .ok (.iload_n 2, 1) := by decide +kernel
theorem dX11_fewestCooks_9 : decode cX11_fewestCooks 9 = .ok (.iconst 4, 1) := by decide +kernel
theorem dX11_fewestCooks_10 : decode cX11_fewestCooks 10 = .ok (.if_icmp .ge 20, 3) := by decide +kernel
theorem dX11_fewestCooks_13 : decode cX11_fewestCooks 13 = .ok (.aload_n 0, 1) := by decide +kernel
theorem dX11_fewestCooks_14 : decode cX11_fewestCooks 14 = .ok (.iload_n 2, 1) := by decide +kernel
theorem dX11_fewestCooks_15 : decode cX11_fewestCooks 15 = .ok (.invokevirtual 307, 3) := by decide +kernel
theorem dX11_fewestCooks_18 : decode cX11_fewestCooks 18 = .ok (.iload_n 1, 1) := by decide +kernel
theorem dX11_fewestCooks_19 : decode cX11_fewestCooks 19 = .ok (.if_icmp .ne 5, 3) := by decide +kernel
theorem dX11_fewestCooks_22 : decode cX11_fewestCooks 22 = .ok (.iload_n 2, 1) := by decide +kernel
theorem dX11_fewestCooks_23 : decode cX11_fewestCooks 23 = .ok (.ireturn, 1) := by decide +kernel
theorem dX11_fewestCooks_24 : decode cX11_fewestCooks 24 = .ok (.iinc 2 1, 3) := by decide +kernel
theorem dX11_fewestCooks_27 : decode cX11_fewestCooks 27 = .ok (.goto (-19), 3) := by decide +kernel
theorem dX11_fewestCooks_30 : decode cX11_fewestCooks 30 = .ok (.iconst 4, 1) := by decide +kernel
theorem dX11_fewestCooks_31 : decode cX11_fewestCooks 31 = .ok (.ireturn, 1) := by decide +kernel
set_option maxRecDepth 20000 in
theorem ggX11_bottleneck_X11_contains : GoodIn wsX11_bottleneck wsX11_contains := goodIn_r _ [7] rfl (by decide +kernel)
set_option maxRecDepth 20000 in
theorem gX11_bottleneck_X11_contains : GoodIn wsX11_bottleneck (va_wsS RX11 208 yX11_contains wsX11_contains) := goodIn_app (goodIn_of _ (by decide +kernel)) ggX11_bottleneck_X11_contains
set_option maxRecDepth 20000 in
theorem ggX11_bottleneck_X11_finishWithShorter : GoodIn wsX11_bottleneck wsX11_finishWithShorter := goodIn_r _ [11, 12, 3, 13, 14, 15, 16, 17, 18, 19, 20, 21, 22, 23, 24, 25, 26, 27, 28, 29, 30, 31, 32, 33, 34, 35, 36, 37, 38, 39, 40, 41, 42, 43, 44, 45, 46, 47, 48, 49, 50, 51, 52, 53, 54, 55, 56, 57, 5, 6, 7, 58, 59, 60, 61, 62, 63, 64, 65, 66, 67, 68, 69, 70, 71, 72, 73, 74, 75, 76, 77, 78, 79, 80, 81, 82, 83, 84, 85, 86, 87, 88, 89, 90, 91, 92, 93, 94, 95, 96, 97, 98, 99, 100, 101, 102, 103, 104, 105, 106, 107, 108, 109, 110, 111, 112, 113, 114, 115, 116, 117, 118, 119, 120, 121, 122, 123, 124, 125, 126, 127, 128, 129, 130, 131, 132, 133, 134, 155, 156, 157, 158, 159, 160, 161, 162, 163, 164, 165, 166, 167, 168, 169, 135, 136, 137, 138, 139, 140, 141, 142, 143, 144, 145, 146, 147, 148, 149, 150, 151, 152, 153, 154] rfl (by decide +kernel)
set_option maxRecDepth 20000 in
theorem gX11_bottleneck_X11_finishWithShorter : GoodIn wsX11_bottleneck (wsV RX11 310 RX11 yX11_finishWithShorter wsX11_finishWithShorter) := goodIn_app (goodIn_of _ (by decide +kernel)) ggX11_bottleneck_X11_finishWithShorter
theorem dX11_bottleneck_0 : decode cX11_bottleneck 0 = .ok (.iconst (-1), 1) := by decide +kernel
theorem dX11_bottleneck_1 : decode cX11_bottleneck 1 = .ok (.istore_n 1, 1) := by decide +kernel
theorem dX11_bottleneck_2 : decode cX11_bottleneck 2 = .ok (.iconst 0, 1) := by decide +kernel
theorem dX11_bottleneck_3 : decode cX11_bottleneck 3 = .ok (.istore_n 2, 1) := by decide +kernel
theorem dX11_bottleneck_4 : decode cX11_bottleneck 4 = .ok (.iconst 0, 1) := by decide +kernel
theorem dX11_bottleneck_5 : decode cX11_bottleneck 5 = .ok (.istore_n 3, 1) := by decide +kernel
theorem dX11_bottleneck_6 : decode cX11_bottleneck 6 = .ok (.iload_n 3, 1) := by decide +kernel
theorem dX11_bottleneck_7 : decode cX11_bottleneck 7 = .ok (.aload_n 0, 1) := by decide +kernel
theorem dX11_bottleneck_8 : decode cX11_bottleneck 8 = .ok (.getfield 67, 3) := by decide +kernel
theorem dX11_bottleneck_11 : decode cX11_bottleneck 11 = .ok (.getfield 117, 3) := by decide +kernel
theorem dX11_bottleneck_14 : decode cX11_bottleneck 14 = .ok (.getfield 126, 3) := by decide +kernel
theorem dX11_bottleneck_17 : decode cX11_bottleneck 17 = .ok (.getfield 130, 3) := by decide +kernel
theorem dX11_bottleneck_20 : decode cX11_bottleneck 20 = .ok (.if_icmp .ge 49, 3) := by decide +kernel
theorem dX11_bottleneck_23 : decode cX11_bottleneck 23 = .ok (.aload_n 0, 1) := by decide +kernel
theorem dX11_bottleneck_24 : decode cX11_bottleneck 24 = .ok (.getfield 67, 3) := by decide +kernel
theorem dX11_bottleneck_27 : decode cX11_bottleneck 27 = .ok (.getfield 139, 3) := by decide +kernel
theorem dX11_bottleneck_30 : decode cX11_bottleneck 30 = .ok (.getfield 261, 3) := by decide +kernel
theorem dX11_bottleneck_33 : decode cX11_bottleneck 33 = .ok (.iload_n 3, 1) := by decide +kernel
theorem dX11_bottleneck_34 : decode cX11_bottleneck 34 = .ok (.invokestatic 208, 3) := by decide +kernel
theorem dX11_bottleneck_37 : decode cX11_bottleneck 37 = .ok (.ifCond .ne 26, 3) := by decide +kernel
theorem dX11_bottleneck_40 : decode cX11_bottleneck 40 = .ok (.aload_n 0, 1) := by decide +kernel
theorem dX11_bottleneck_41 : decode cX11_bottleneck 41 = .ok (.iload_n 3, 1) := by decide +kernel
theorem dX11_bottleneck_42 : decode cX11_bottleneck 42 = .ok (.invokevirtual 310, 3) := by decide +kernel
theorem dX11_bottleneck_45 : decode cX11_bottleneck 45 = .ok (.istore 4, 2) := by decide +kernel
theorem dX11_bottleneck_47 : decode cX11_bottleneck 47 = .ok (.iload_n 1, 1) := by decide +kernel
theorem dX11_bottleneck_48 : decode cX11_bottleneck 48 = .ok (.iconst (-1), 1) := by decide +kernel
theorem dX11_bottleneck_49 : decode cX11_bottleneck 49 = .ok (.if_icmp .eq 9, 3) := by decide +kernel
theorem dX11_bottleneck_52 : decode cX11_bottleneck 52 = .ok (.iload 4, 2) := by decide +kernel
theorem dX11_bottleneck_54 : decode cX11_bottleneck 54 = .ok (.iload_n 2, 1) := by decide +kernel
theorem dX11_bottleneck_55 : decode cX11_bottleneck 55 = .ok (.if_icmp .ge 8, 3) := by decide +kernel
theorem dX11_bottleneck_58 : decode cX11_bottleneck 58 = .ok (.iload_n 3, 1) := by decide +kernel
theorem dX11_bottleneck_59 : decode cX11_bottleneck 59 = .ok (.istore_n 1, 1) := by decide +kernel
theorem dX11_bottleneck_60 : decode cX11_bottleneck 60 = .ok (.iload 4, 2) := by decide +kernel
theorem dX11_bottleneck_62 : decode cX11_bottleneck 62 = .ok (.istore_n 2, 1) := by decide +kernel
theorem dX11_bottleneck_63 : decode cX11_bottleneck 63 = .ok (.iinc 3 1, 3) := by decide +kernel
theorem dX11_bottleneck_66 : decode cX11_bottleneck 66 = .ok (.goto (-60), 3) := by decide +kernel
theorem dX11_bottleneck_69 : decode cX11_bottleneck 69 = .ok (.iload_n 1, 1) := by decide +kernel
theorem dX11_bottleneck_70 : decode cX11_bottleneck 70 = .ok (.iconst (-1), 1) := by decide +kernel
theorem dX11_bottleneck_71 : decode cX11_bottleneck 71 = .ok (.if_icmp .ne 14, 3) := by decide +kernel
theorem dX11_bottleneck_74 : decode cX11_bottleneck 74 = .ok (.new 250, 3) := by decide +kernel
theorem dX11_bottleneck_77 : decode cX11_bottleneck 77 = .ok (.dup, 1) := by decide +kernel
theorem dX11_bottleneck_78 : decode cX11_bottleneck 78 = .ok (.ldc_w 313, 3) := by decide +kernel
theorem dX11_bottleneck_81 : decode cX11_bottleneck 81 = .ok (.invokespecial 254, 3) := by decide +kernel
theorem dX11_bottleneck_84 : decode cX11_bottleneck 84 = .ok (.athrow, 1) := by decide +kernel
theorem dX11_bottleneck_85 : decode cX11_bottleneck 85 = .ok (.iload_n 1, 1) := by decide +kernel
theorem dX11_bottleneck_86 : decode cX11_bottleneck 86 = .ok (.ireturn, 1) := by decide +kernel
set_option maxRecDepth 20000 in
theorem ggX11_saltNeeded_X11_sum : GoodIn wsX11_saltNeeded wsX11_sum := goodIn_r _ [5] rfl (by decide +kernel)
set_option maxRecDepth 20000 in
theorem gX11_saltNeeded_X11_sum : GoodIn wsX11_saltNeeded (va_wsS RX11 166 yX11_sum wsX11_sum) := goodIn_app (goodIn_of _ (by decide +kernel)) ggX11_saltNeeded_X11_sum
theorem dX11_saltNeeded_0 : decode cX11_saltNeeded 0 = .ok (.aload_n 0, 1) := by decide +kernel
theorem dX11_saltNeeded_1 : decode cX11_saltNeeded 1 = .ok (.getfield 67, 3) := by decide +kernel
theorem dX11_saltNeeded_4 : decode cX11_saltNeeded 4 = .ok (.getfield 117, 3) := by decide +kernel
theorem dX11_saltNeeded_7 : decode cX11_saltNeeded 7 = .ok (.getfield 199, 3) := by decide +kernel
theorem dX11_saltNeeded_10 : decode cX11_saltNeeded 10 = .ok (.aload_n 0, 1) := by decide +kernel
theorem dX11_saltNeeded_11 : decode cX11_saltNeeded 11 = .ok (.getfield 67, 3) := by decide +kernel
theorem dX11_saltNeeded_14 : decode cX11_saltNeeded 14 = .ok (.getfield 117, 3) := by decide +kernel
theorem dX11_saltNeeded_17 : decode cX11_saltNeeded 17 = .ok (.getfield 126, 3) := by decide +kernel
theorem dX11_saltNeeded_20 : decode cX11_saltNeeded 20 = .ok (.getfield 130, 3) := by decide +kernel
theorem dX11_saltNeeded_23 : decode cX11_saltNeeded 23 = .ok (.invokestatic 166, 3) := by decide +kernel
theorem dX11_saltNeeded_26 : decode cX11_saltNeeded 26 = .ok (.aload_n 0, 1) := by decide +kernel
theorem dX11_saltNeeded_27 : decode cX11_saltNeeded 27 = .ok (.getfield 67, 3) := by decide +kernel
theorem dX11_saltNeeded_30 : decode cX11_saltNeeded 30 = .ok (.getfield 139, 3) := by decide +kernel
theorem dX11_saltNeeded_33 : decode cX11_saltNeeded 33 = .ok (.getfield 149, 3) := by decide +kernel
theorem dX11_saltNeeded_36 : decode cX11_saltNeeded 36 = .ok (.iadd, 1) := by decide +kernel
theorem dX11_saltNeeded_37 : decode cX11_saltNeeded 37 = .ok (.istore_n 1, 1) := by decide +kernel
theorem dX11_saltNeeded_38 : decode cX11_saltNeeded 38 = .ok (.iload_n 1, 1) := by decide +kernel
theorem dX11_saltNeeded_39 : decode cX11_saltNeeded 39 = .ok (.aload_n 0, 1) := by decide +kernel
theorem dX11_saltNeeded_40 : decode cX11_saltNeeded 40 = .ok (.getfield 67, 3) := by decide +kernel
theorem dX11_saltNeeded_43 : decode cX11_saltNeeded 43 = .ok (.getfield 117, 3) := by decide +kernel
theorem dX11_saltNeeded_46 : decode cX11_saltNeeded 46 = .ok (.getfield 315, 3) := by decide +kernel
theorem dX11_saltNeeded_49 : decode cX11_saltNeeded 49 = .ok (.if_icmp .ge 16, 3) := by decide +kernel
theorem dX11_saltNeeded_52 : decode cX11_saltNeeded 52 = .ok (.aload_n 0, 1) := by decide +kernel
theorem dX11_saltNeeded_53 : decode cX11_saltNeeded 53 = .ok (.getfield 67, 3) := by decide +kernel
theorem dX11_saltNeeded_56 : decode cX11_saltNeeded 56 = .ok (.getfield 117, 3) := by decide +kernel
theorem dX11_saltNeeded_59 : decode cX11_saltNeeded 59 = .ok (.getfield 315, 3) := by decide +kernel
theorem dX11_saltNeeded_62 : decode cX11_saltNeeded 62 = .ok (.iload_n 1, 1) := by decide +kernel
theorem dX11_saltNeeded_63 : decode cX11_saltNeeded 63 = .ok (.isub, 1) := by decide +kernel
theorem dX11_saltNeeded_64 : decode cX11_saltNeeded 64 = .ok (.ireturn, 1) := by decide +kernel
theorem dX11_saltNeeded_65 : decode cX11_saltNeeded 65 = .ok (.iload_n 1, 1) := by decide +kernel
theorem dX11_saltNeeded_66 : decode cX11_saltNeeded 66 = .ok (.aload_n 0, 1) := by decide +kernel
theorem dX11_saltNeeded_67 : decode cX11_saltNeeded 67 = .ok (.getfield 67, 3) := by decide +kernel
theorem dX11_saltNeeded_70 : decode cX11_saltNeeded 70 = .ok (.getfield 117, 3) := by decide +kernel
theorem dX11_saltNeeded_73 : decode cX11_saltNeeded 73 = .ok (.getfield 318, 3) := by decide +kernel
theorem dX11_saltNeeded_76 : decode cX11_saltNeeded 76 = .ok (.if_icmp .le 18, 3) := by decide +kernel
theorem dX11_saltNeeded_79 : decode cX11_saltNeeded 79 = .ok (.aload_n 0, 1) := by decide +kernel
theorem dX11_saltNeeded_80 : decode cX11_saltNeeded 80 = .ok (.getfield 67, 3) := by decide +kernel
theorem dX11_saltNeeded_83 : decode cX11_saltNeeded 83 = .ok (.getfield 117, 3) := by decide +kernel
theorem dX11_saltNeeded_86 : decode cX11_saltNeeded 86 = .ok (.getfield 318, 3) := by decide +kernel
theorem dX11_saltNeeded_89 : decode cX11_saltNeeded 89 = .ok (.iload_n 1, 1) := by decide +kernel
theorem dX11_saltNeeded_90 : decode cX11_saltNeeded 90 = .ok (.isub, 1) := by decide +kernel
theorem dX11_saltNeeded_91 : decode cX11_saltNeeded 91 = .ok (.goto 4, 3) := by decide +kernel
theorem dX11_saltNeeded_94 : decode cX11_saltNeeded 94 = .ok (.iconst 0, 1) := by decide +kernel
theorem dX11_saltNeeded_95 : decode cX11_saltNeeded 95 = .ok (.ireturn, 1) := by decide +kernel
set_option maxRecDepth 20000 in
theorem ggX11_doneShare_J6_bitCount_0f7a4 : GoodIn wsX11_doneShare wsJ6_bitCount_0f7a4 := goodIn_r _ [5, 6, 7, 8] rfl (by decide +kernel)
set_option maxRecDepth 20000 in
theorem gX11_doneShare_J6_bitCount_0f7a4 : GoodIn wsX11_doneShare (va_wsS RX11 188 yJ6_bitCount_0f7a4 wsJ6_bitCount_0f7a4) := goodIn_app (goodIn_of _ (by decide +kernel)) ggX11_doneShare_J6_bitCount_0f7a4
set_option maxRecDepth 20000 in
theorem ggX11_doneShare_X11_stepsToShareBy : GoodIn wsX11_doneShare wsX11_stepsToShareBy := goodIn_r _ [13, 1, 14, 15, 16, 17, 18, 19, 20, 21, 22, 23, 24, 25, 26, 27, 28, 29, 30, 31, 32, 33, 49, 50, 51, 52, 53, 54, 55, 56, 57, 58, 59, 60, 61, 62, 63, 64, 65, 66, 67, 68] rfl (by decide +kernel)
set_option maxRecDepth 20000 in
theorem gX11_doneShare_X11_stepsToShareBy : GoodIn wsX11_doneShare (wsV RX11 321 RX11 yX11_stepsToShareBy wsX11_stepsToShareBy) := goodIn_app (goodIn_of _ (by decide +kernel)) ggX11_doneShare_X11_stepsToShareBy
theorem dX11_doneShare_0 : decode cX11_doneShare 0 = .ok (.aload_n 0, 1) := by decide +kernel
theorem dX11_doneShare_1 : decode cX11_doneShare 1 = .ok (.getfield 67, 3) := by decide +kernel
theorem dX11_doneShare_4 : decode cX11_doneShare 4 = .ok (.getfield 139, 3) := by decide +kernel
theorem dX11_doneShare_7 : decode cX11_doneShare 7 = .ok (.getfield 261, 3) := by decide +kernel
theorem dX11_doneShare_10 : decode cX11_doneShare 10 = .ok (.invokestatic 188, 3) := by decide +kernel
theorem dX11_doneShare_13 : decode cX11_doneShare 13 = .ok (.i2f, 1) := by decide +kernel
theorem dX11_doneShare_14 : decode cX11_doneShare 14 = .ok (.aload_n 0, 1) := by decide +kernel
theorem dX11_doneShare_15 : decode cX11_doneShare 15 = .ok (.invokevirtual 321, 3) := by decide +kernel
theorem dX11_doneShare_18 : decode cX11_doneShare 18 = .ok (.i2f, 1) := by decide +kernel
theorem dX11_doneShare_19 : decode cX11_doneShare 19 = .ok (.fdiv, 1) := by decide +kernel
theorem dX11_doneShare_20 : decode cX11_doneShare 20 = .ok (.freturn, 1) := by decide +kernel
set_option maxRecDepth 20000 in
theorem ggX11_meanDuration_X11_sum : GoodIn wsX11_meanDuration wsX11_sum := goodIn_r _ [5] rfl (by decide +kernel)
set_option maxRecDepth 20000 in
theorem gX11_meanDuration_X11_sum : GoodIn wsX11_meanDuration (va_wsS RX11 166 yX11_sum wsX11_sum) := goodIn_app (goodIn_of _ (by decide +kernel)) ggX11_meanDuration_X11_sum
set_option maxRecDepth 20000 in
theorem ggX11_meanDuration_X11_stepsToShareBy : GoodIn wsX11_meanDuration wsX11_stepsToShareBy := goodIn_r _ [9, 1, 10, 11, 12, 13, 14, 15, 16, 17, 18, 19, 20, 21, 22, 23, 24, 25, 26, 27, 28, 29, 45, 46, 47, 48, 49, 50, 51, 52, 53, 54, 55, 56, 57, 58, 59, 60, 61, 62, 63, 64] rfl (by decide +kernel)
set_option maxRecDepth 20000 in
theorem gX11_meanDuration_X11_stepsToShareBy : GoodIn wsX11_meanDuration (wsV RX11 321 RX11 yX11_stepsToShareBy wsX11_stepsToShareBy) := goodIn_app (goodIn_of _ (by decide +kernel)) ggX11_meanDuration_X11_stepsToShareBy
theorem dX11_meanDuration_0 : decode cX11_meanDuration 0 = .ok (.aload_n 0, 1) := by decide +kernel
theorem dX11_meanDuration_1 : decode cX11_meanDuration 1 = .ok (.getfield 67, 3) := by decide +kernel
theorem dX11_meanDuration_4 : decode cX11_meanDuration 4 = .ok (.getfield 139, 3) := by decide +kernel
theorem dX11_meanDuration_7 : decode cX11_meanDuration 7 = .ok (.getfield 196, 3) := by decide +kernel
theorem dX11_meanDuration_10 : decode cX11_meanDuration 10 = .ok (.aload_n 0, 1) := by decide +kernel
theorem dX11_meanDuration_11 : decode cX11_meanDuration 11 = .ok (.getfield 67, 3) := by decide +kernel
theorem dX11_meanDuration_14 : decode cX11_meanDuration 14 = .ok (.getfield 117, 3) := by decide +kernel
theorem dX11_meanDuration_17 : decode cX11_meanDuration 17 = .ok (.getfield 126, 3) := by decide +kernel
theorem dX11_meanDuration_20 : decode cX11_meanDuration 20 = .ok (.getfield 130, 3) := by decide +kernel
theorem dX11_meanDuration_23 : decode cX11_meanDuration 23 = .ok (.invokestatic 166, 3) := by decide +kernel
theorem dX11_meanDuration_26 : decode cX11_meanDuration 26 = .ok (.istore_n 1, 1) := by decide +kernel
theorem dX11_meanDuration_27 : decode cX11_meanDuration 27 = .ok (.iload_n 1, 1) := by decide +kernel
theorem dX11_meanDuration_28 : decode cX11_meanDuration 28 = .ok (.i2d, 1) := by decide +kernel
theorem dX11_meanDuration_29 : decode cX11_meanDuration 29 = .ok (.aload_n 0, 1) := by decide +kernel
theorem dX11_meanDuration_30 : decode cX11_meanDuration 30 = .ok (.invokevirtual 321, 3) := by decide +kernel
theorem dX11_meanDuration_33 : decode cX11_meanDuration 33 = .ok (.i2d, 1) := by decide +kernel
theorem dX11_meanDuration_34 : decode cX11_meanDuration 34 = .ok (.ddiv, 1) := by decide +kernel
theorem dX11_meanDuration_35 : decode cX11_meanDuration 35 = .ok (.dreturn, 1) := by decide +kernel
set_option maxRecDepth 20000 in
theorem ggX11_inconsistencies_X11_sum : GoodIn wsX11_inconsistencies wsX11_sum := goodIn_r _ [5] rfl (by decide +kernel)
set_option maxRecDepth 20000 in
theorem gX11_inconsistencies_X11_sum : GoodIn wsX11_inconsistencies (va_wsS RX11 166 yX11_sum wsX11_sum) := goodIn_app (goodIn_of _ (by decide +kernel)) ggX11_inconsistencies_X11_sum
set_option maxRecDepth 20000 in
theorem ggX11_inconsistencies_J6_bitCount_0f7a4 : GoodIn wsX11_inconsistencies wsJ6_bitCount_0f7a4 := goodIn_r _ [9, 10, 11, 12] rfl (by decide +kernel)
set_option maxRecDepth 20000 in
theorem gX11_inconsistencies_J6_bitCount_0f7a4 : GoodIn wsX11_inconsistencies (va_wsS RX11 188 yJ6_bitCount_0f7a4 wsJ6_bitCount_0f7a4) := goodIn_app (goodIn_of _ (by decide +kernel)) ggX11_inconsistencies_J6_bitCount_0f7a4
set_option maxRecDepth 20000 in
theorem ggX11_inconsistencies_X3_prematureSteps : GoodIn wsX11_inconsistencies wsX3_prematureSteps := goodIn_r _ [17, 18, 19, 20, 4, 21, 33, 34, 35, 36, 37, 38, 39, 40, 41, 42, 43, 44, 45, 46, 47, 48, 49, 50, 51, 52, 53, 54, 55, 56, 57, 58, 59, 60, 61, 62, 63, 64, 65, 66, 67, 68, 69, 70, 71, 72] rfl (by decide +kernel)
set_option maxRecDepth 20000 in
theorem gX11_inconsistencies_X3_prematureSteps : GoodIn wsX11_inconsistencies (wsV RX11 330 RX3 yX3_prematureSteps wsX3_prematureSteps) := goodIn_app (goodIn_of _ (by decide +kernel)) ggX11_inconsistencies_X3_prematureSteps
theorem dX11_inconsistencies_0 : decode cX11_inconsistencies 0 = .ok (.aload_n 0, 1) := by decide +kernel
theorem dX11_inconsistencies_1 : decode cX11_inconsistencies 1 = .ok (.getfield 67, 3) := by decide +kernel
theorem dX11_inconsistencies_4 : decode cX11_inconsistencies 4 = .ok (.getfield 139, 3) := by decide +kernel
theorem dX11_inconsistencies_7 : decode cX11_inconsistencies 7 = .ok (.astore_n 1, 1) := by decide +kernel
theorem dX11_inconsistencies_8 : decode cX11_inconsistencies 8 = .ok (.aload_n 0, 1) := by decide +kernel
theorem dX11_inconsistencies_9 : decode cX11_inconsistencies 9 = .ok (.getfield 67, 3) := by decide +kernel
theorem dX11_inconsistencies_12 : decode cX11_inconsistencies 12 = .ok (.getfield 117, 3) := by decide +kernel
theorem dX11_inconsistencies_15 : decode cX11_inconsistencies 15 = .ok (.getfield 126, 3) := by decide +kernel
theorem dX11_inconsistencies_18 : decode cX11_inconsistencies 18 = .ok (.getfield 130, 3) := by decide +kernel
theorem dX11_inconsistencies_21 : decode cX11_inconsistencies 21 = .ok (.istore_n 2, 1) := by decide +kernel
theorem dX11_inconsistencies_22 : decode cX11_inconsistencies 22 = .ok (.aload_n 1, 1) := by decide +kernel
theorem dX11_inconsistencies_23 : decode cX11_inconsistencies 23 = .ok (.getfield 162, 3) := by decide +kernel
theorem dX11_inconsistencies_26 : decode cX11_inconsistencies 26 = .ok (.iload_n 2, 1) := by decide +kernel
theorem dX11_inconsistencies_27 : decode cX11_inconsistencies 27 = .ok (.invokestatic 166, 3) := by decide +kernel
theorem dX11_inconsistencies_30 : decode cX11_inconsistencies 30 = .ok (.aload_n 1, 1) := by decide +kernel
theorem dX11_inconsistencies_31 : decode cX11_inconsistencies 31 = .ok (.getfield 170, 3) := by decide +kernel
theorem dX11_inconsistencies_34 : decode cX11_inconsistencies 34 = .ok (.iload_n 2, 1) := by decide +kernel
theorem dX11_inconsistencies_35 : decode cX11_inconsistencies 35 = .ok (.invokestatic 166, 3) := by decide +kernel
theorem dX11_inconsistencies_38 : decode cX11_inconsistencies 38 = .ok (.isub, 1) := by decide +kernel
theorem dX11_inconsistencies_39 : decode cX11_inconsistencies 39 = .ok (.aload_n 1, 1) := by decide +kernel
theorem dX11_inconsistencies_40 : decode cX11_inconsistencies 40 = .ok (.getfield 324, 3) := by decide +kernel
theorem dX11_inconsistencies_43 : decode cX11_inconsistencies 43 = .ok (.invokestatic 188, 3) := by decide +kernel
theorem dX11_inconsistencies_46 : decode cX11_inconsistencies 46 = .ok (.isub, 1) := by decide +kernel
theorem dX11_inconsistencies_47 : decode cX11_inconsistencies 47 = .ok (.aload_n 1, 1) := by decide +kernel
theorem dX11_inconsistencies_48 : decode cX11_inconsistencies 48 = .ok (.getfield 327, 3) := by decide +kernel
theorem dX11_inconsistencies_51 : decode cX11_inconsistencies 51 = .ok (.isub, 1) := by decide +kernel
theorem dX11_inconsistencies_52 : decode cX11_inconsistencies 52 = .ok (.aload_n 0, 1) := by decide +kernel
theorem dX11_inconsistencies_53 : decode cX11_inconsistencies 53 = .ok (.getfield 67, 3) := by decide +kernel
theorem dX11_inconsistencies_56 : decode cX11_inconsistencies 56 = .ok (.invokevirtual 330, 3) := by decide +kernel
theorem dX11_inconsistencies_59 : decode cX11_inconsistencies 59 = .ok (.iadd, 1) := by decide +kernel
theorem dX11_inconsistencies_60 : decode cX11_inconsistencies 60 = .ok (.ireturn, 1) := by decide +kernel
set_option maxRecDepth 20000 in
theorem ggX11_pass_X11_isPassLength : GoodIn wsX11_pass wsX11_isPassLength := goodIn_r _ [11, 12, 13, 10, 14] rfl (by decide +kernel)
set_option maxRecDepth 20000 in
theorem gX11_pass_X11_isPassLength : GoodIn wsX11_pass (wsV RX11 333 RX11 yX11_isPassLength wsX11_isPassLength) := goodIn_app (goodIn_of _ (by decide +kernel)) ggX11_pass_X11_isPassLength
set_option maxRecDepth 20000 in
theorem ggX11_pass_X11_fitsClock : GoodIn wsX11_pass wsX11_fitsClock := goodIn_r _ [18, 6, 135, 136, 137, 138, 139, 140, 141, 142, 143, 144, 145, 146, 147, 148, 149, 150, 151, 152, 153, 154, 155, 156, 157, 158, 159, 160, 161, 162, 163, 164, 165] rfl (by decide +kernel)
set_option maxRecDepth 20000 in
theorem gX11_pass_X11_fitsClock : GoodIn wsX11_pass (wsV RX11 336 RX11 yX11_fitsClock wsX11_fitsClock) := goodIn_app (goodIn_of _ (by decide +kernel)) ggX11_pass_X11_fitsClock
set_option maxRecDepth 20000 in
theorem ggX11_pass_X2_push : GoodIn wsX11_pass wsX2_push := goodIn_r _ [23, 24, 25, 26, 27, 28, 29, 30, 31, 32, 33, 34, 35, 36, 37, 38, 39, 40, 41, 42, 43, 44, 45, 46, 47, 48, 49, 50, 51, 52, 53, 54, 166, 167, 168, 151, 152, 153, 154, 155, 156, 157, 158, 159, 160, 161, 162, 163, 164, 165] rfl (by decide +kernel)
set_option maxRecDepth 20000 in
theorem gX11_pass_X2_push : GoodIn wsX11_pass (wsV RX11 341 RX2 yX2_push wsX2_push) := goodIn_app (goodIn_of _ (by decide +kernel)) ggX11_pass_X2_push
set_option maxRecDepth 20000 in
theorem ggX11_pass_X3_runMinutes : GoodIn wsX11_pass wsX3_runMinutes := goodIn_r _ [59, 60, 61, 62, 58, 63, 64, 65, 66, 67, 68, 69, 70, 71, 72, 10, 73, 74, 75, 76, 77, 78, 79, 80, 81, 82, 83, 84, 85, 86, 87, 88, 89, 90, 91, 34, 92, 42, 43, 53, 93, 94, 95, 96, 97, 98, 99, 100, 101, 102, 103, 104, 44, 51, 54, 105, 106, 107, 108, 109, 110, 111, 112, 113, 114, 115, 116, 117, 118, 119, 120, 121, 122, 123, 124, 125, 126, 127, 128, 129, 130, 131, 132, 133, 134, 50, 45, 52, 146, 147, 148, 149, 150, 169, 170, 171, 172, 173, 174, 175, 176, 177, 178, 179, 180, 181, 182, 183, 184, 185, 186, 187, 188, 151, 152, 153, 154, 155, 156, 157, 158, 159, 160, 161, 162, 163, 164, 165] rfl (by decide +kernel)
set_option maxRecDepth 20000 in
theorem gX11_pass_X3_runMinutes : GoodIn wsX11_pass (wsV RX11 298 RX3 yX3_runMinutes wsX3_runMinutes) := goodIn_app (goodIn_of _ (by decide +kernel)) ggX11_pass_X3_runMinutes
theorem dX11_pass_0 : decode cX11_pass 0 = .ok (.aload_n 0, 1) := by decide +kernel
theorem dX11_pass_1 : decode cX11_pass 1 = .ok (.iload_n 1, 1) := by decide +kernel
theorem dX11_pass_2 : decode cX11_pass 2 = .ok (.invokevirtual 333, 3) := by decide +kernel
theorem dX11_pass_5 : decode cX11_pass 5 = .ok (.ifCond .ne 14, 3) := by decide +kernel
theorem dX11_pass_8 : decode cX11_pass 8 = .ok (.new 109, 3) := by decide +kernel
theorem dX11_pass_11 : decode cX11_pass 11 = .ok (.dup, 1) := by decide +kernel
theorem dX11_pass_12 : decode cX11_pass 12 = .ok (.ldc_w 296, 3) := by decide +kernel
theorem dX11_pass_15 : decode cX11_pass 15 = .ok (.invokespecial 113, 3) := by decide +kernel
theorem dX11_pass_18 : decode cX11_pass 18 = .ok (.athrow, 1) := by decide +kernel
theorem dX11_pass_19 : decode cX11_pass 19 = .ok (.aload_n 0, 1) := by decide +kernel
theorem dX11_pass_20 : decode cX11_pass 20 = .ok (.iload_n 1, 1) := by decide +kernel
theorem dX11_pass_21 : decode cX11_pass 21 = .ok (.invokevirtual 336, 3) := by decide +kernel
theorem dX11_pass_24 : decode cX11_pass 24 = .ok (.ifCond .ne 14, 3) := by decide +kernel
theorem dX11_pass_27 : decode cX11_pass 27 = .ok (.new 96, 3) := by decide +kernel
theorem dX11_pass_30 : decode cX11_pass 30 = .ok (.dup, 1) := by decide +kernel
theorem dX11_pass_31 : decode cX11_pass 31 = .ok (.ldc_w 339, 3) := by decide +kernel
theorem dX11_pass_34 : decode cX11_pass 34 = .ok (.invokespecial 100, 3) := by decide +kernel
theorem dX11_pass_37 : decode cX11_pass 37 = .ok (.athrow, 1) := by decide +kernel
theorem dX11_pass_38 : decode cX11_pass 38 = .ok (.aload_n 0, 1) := by decide +kernel
theorem dX11_pass_39 : decode cX11_pass 39 = .ok (.getfield 77, 3) := by decide +kernel
theorem dX11_pass_42 : decode cX11_pass 42 = .ok (.aload_n 0, 1) := by decide +kernel
theorem dX11_pass_43 : decode cX11_pass 43 = .ok (.getfield 67, 3) := by decide +kernel
theorem dX11_pass_46 : decode cX11_pass 46 = .ok (.getfield 139, 3) := by decide +kernel
theorem dX11_pass_49 : decode cX11_pass 49 = .ok (.invokevirtual 341, 3) := by decide +kernel
theorem dX11_pass_52 : decode cX11_pass 52 = .ok (.aload_n 0, 1) := by decide +kernel
theorem dX11_pass_53 : decode cX11_pass 53 = .ok (.getfield 67, 3) := by decide +kernel
theorem dX11_pass_56 : decode cX11_pass 56 = .ok (.iload_n 1, 1) := by decide +kernel
theorem dX11_pass_57 : decode cX11_pass 57 = .ok (.invokevirtual 298, 3) := by decide +kernel
theorem dX11_pass_60 : decode cX11_pass 60 = .ok (.ireturn, 1) := by decide +kernel
set_option maxRecDepth 20000 in
theorem ggX11_addSalt_X11_isSaltAmount : GoodIn wsX11_addSalt wsX11_isSaltAmount := goodIn_r _ [11, 12, 13, 10, 14] rfl (by decide +kernel)
set_option maxRecDepth 20000 in
theorem gX11_addSalt_X11_isSaltAmount : GoodIn wsX11_addSalt (wsV RX11 345 RX11 yX11_isSaltAmount wsX11_isSaltAmount) := goodIn_app (goodIn_of _ (by decide +kernel)) ggX11_addSalt_X11_isSaltAmount
set_option maxRecDepth 20000 in
theorem ggX11_addSalt_X2_push : GoodIn wsX11_addSalt wsX2_push := goodIn_r _ [19, 20, 21, 22, 23, 24, 25, 26, 27, 28, 29, 30, 31, 32, 33, 34, 35, 36, 37, 38, 39, 40, 41, 42, 43, 44, 45, 46, 47, 48, 49, 50, 91, 92, 93, 76, 77, 78, 79, 80, 81, 82, 83, 84, 85, 86, 87, 88, 89, 90] rfl (by decide +kernel)
set_option maxRecDepth 20000 in
theorem gX11_addSalt_X2_push : GoodIn wsX11_addSalt (wsV RX11 341 RX2 yX2_push wsX2_push) := goodIn_app (goodIn_of _ (by decide +kernel)) ggX11_addSalt_X2_push
set_option maxRecDepth 20000 in
theorem ggX11_addSalt_X3_dishTaste : GoodIn wsX11_addSalt wsX3_dishTaste := goodIn_r _ [55, 56, 57, 58, 10, 59, 71, 72, 73, 74, 75, 76, 77, 78, 79, 80, 81, 82, 83, 84, 85, 86, 87, 88, 89, 90, 94, 95, 96, 97, 98, 99, 100, 101, 102, 103, 104, 105, 106, 107, 108, 109, 110, 111, 112, 113] rfl (by decide +kernel)
set_option maxRecDepth 20000 in
theorem gX11_addSalt_X3_dishTaste : GoodIn wsX11_addSalt (wsV RX11 152 RX3 yX3_dishTaste wsX3_dishTaste) := goodIn_app (goodIn_of _ (by decide +kernel)) ggX11_addSalt_X3_dishTaste
theorem dX11_addSalt_0 : decode cX11_addSalt 0 = .ok (.aload_n 0, 1) := by decide +kernel
theorem dX11_addSalt_1 : decode cX11_addSalt 1 = .ok (.iload_n 1, 1) := by decide +kernel
theorem dX11_addSalt_2 : decode cX11_addSalt 2 = .ok (.invokevirtual 345, 3) := by decide +kernel
theorem dX11_addSalt_5 : decode cX11_addSalt 5 = .ok (.ifCond .ne 14, 3) := by decide +kernel
theorem dX11_addSalt_8 : decode cX11_addSalt 8 = .ok (.new 109, 3) := by decide +kernel
theorem dX11_addSalt_11 : decode cX11_addSalt 11 = .ok (.dup, 1) := by decide +kernel
theorem dX11_addSalt_12 : decode cX11_addSalt 12 = .ok (.ldc_w 348, 3) := by decide +kernel
theorem dX11_addSalt_15 : decode cX11_addSalt 15 = .ok (.invokespecial 113, 3) := by decide +kernel
theorem dX11_addSalt_18 : decode cX11_addSalt 18 = .ok (.athrow, 1) := by decide +kernel
theorem dX11_addSalt_19 : decode cX11_addSalt 19 = .ok (.aload_n 0, 1) := by decide +kernel
theorem dX11_addSalt_20 : decode cX11_addSalt 20 = .ok (.getfield 67, 3) := by decide +kernel
theorem dX11_addSalt_23 : decode cX11_addSalt 23 = .ok (.getfield 139, 3) := by decide +kernel
theorem dX11_addSalt_26 : decode cX11_addSalt 26 = .ok (.getfield 350, 3) := by decide +kernel
theorem dX11_addSalt_29 : decode cX11_addSalt 29 = .ok (.ifCond .eq 14, 3) := by decide +kernel
theorem dX11_addSalt_32 : decode cX11_addSalt 32 = .ok (.new 96, 3) := by decide +kernel
theorem dX11_addSalt_35 : decode cX11_addSalt 35 = .ok (.dup, 1) := by decide +kernel
theorem dX11_addSalt_36 : decode cX11_addSalt 36 = .ok (.ldc_w 354, 3) := by decide +kernel
theorem dX11_addSalt_39 : decode cX11_addSalt 39 = .ok (.invokespecial 100, 3) := by decide +kernel
theorem dX11_addSalt_42 : decode cX11_addSalt 42 = .ok (.athrow, 1) := by decide +kernel
theorem dX11_addSalt_43 : decode cX11_addSalt 43 = .ok (.aload_n 0, 1) := by decide +kernel
theorem dX11_addSalt_44 : decode cX11_addSalt 44 = .ok (.getfield 77, 3) := by decide +kernel
theorem dX11_addSalt_47 : decode cX11_addSalt 47 = .ok (.aload_n 0, 1) := by decide +kernel
theorem dX11_addSalt_48 : decode cX11_addSalt 48 = .ok (.getfield 67, 3) := by decide +kernel
theorem dX11_addSalt_51 : decode cX11_addSalt 51 = .ok (.getfield 139, 3) := by decide +kernel
theorem dX11_addSalt_54 : decode cX11_addSalt 54 = .ok (.invokevirtual 341, 3) := by decide +kernel
theorem dX11_addSalt_57 : decode cX11_addSalt 57 = .ok (.aload_n 0, 1) := by decide +kernel
theorem dX11_addSalt_58 : decode cX11_addSalt 58 = .ok (.getfield 67, 3) := by decide +kernel
theorem dX11_addSalt_61 : decode cX11_addSalt 61 = .ok (.getfield 139, 3) := by decide +kernel
theorem dX11_addSalt_64 : decode cX11_addSalt 64 = .ok (.dup, 1) := by decide +kernel
theorem dX11_addSalt_65 : decode cX11_addSalt 65 = .ok (.getfield 149, 3) := by decide +kernel
theorem dX11_addSalt_68 : decode cX11_addSalt 68 = .ok (.iload_n 1, 1) := by decide +kernel
theorem dX11_addSalt_69 : decode cX11_addSalt 69 = .ok (.iadd, 1) := by decide +kernel
theorem dX11_addSalt_70 : decode cX11_addSalt 70 = .ok (.putfield 149, 3) := by decide +kernel
theorem dX11_addSalt_73 : decode cX11_addSalt 73 = .ok (.aload_n 0, 1) := by decide +kernel
theorem dX11_addSalt_74 : decode cX11_addSalt 74 = .ok (.getfield 67, 3) := by decide +kernel
theorem dX11_addSalt_77 : decode cX11_addSalt 77 = .ok (.invokevirtual 152, 3) := by decide +kernel
theorem dX11_addSalt_80 : decode cX11_addSalt 80 = .ok (.ireturn, 1) := by decide +kernel
set_option maxRecDepth 20000 in
theorem ggX11_stop_X11_requireStep : GoodIn wsX11_stop wsX11_requireStep := goodIn_ca (goodIn_r _ [9, 10, 11, 3, 12, 13, 8, 14, 58, 59, 60, 61, 62, 63, 64, 65, 66, 67, 68, 69, 70, 71, 72, 73, 89, 90, 91, 92, 93, 94, 95, 96, 97, 98, 99, 100, 101, 102, 103, 104, 105, 106, 107, 108] rfl (by decide +kernel)) (goodIn_sub (fun _ h => List.mem_cons_of_mem _ (List.mem_append_right _ h)) (by decide +kernel))
set_option maxRecDepth 20000 in
theorem gX11_stop_X11_requireStep : GoodIn wsX11_stop (wsV RX11 193 RX11 yX11_requireStep wsX11_requireStep) := goodIn_app (goodIn_of _ (by decide +kernel)) ggX11_stop_X11_requireStep
set_option maxRecDepth 20000 in
theorem ggX11_stop_X11_contains : GoodIn wsX11_stop wsX11_contains := goodIn_r _ [17] rfl (by decide +kernel)
set_option maxRecDepth 20000 in
theorem gX11_stop_X11_contains : GoodIn wsX11_stop (va_wsS RX11 208 yX11_contains wsX11_contains) := goodIn_app (goodIn_of _ (by decide +kernel)) ggX11_stop_X11_contains
set_option maxRecDepth 20000 in
theorem ggX11_stop_X2_push : GoodIn wsX11_stop wsX2_push := goodIn_r _ [22, 23, 24, 25, 26, 27, 28, 29, 30, 31, 32, 33, 34, 35, 36, 37, 38, 39, 40, 41, 42, 43, 44, 45, 46, 47, 48, 49, 50, 51, 52, 53, 109, 110, 111, 74, 75, 76, 77, 78, 79, 80, 81, 82, 83, 84, 85, 86, 87, 88] rfl (by decide +kernel)
set_option maxRecDepth 20000 in
theorem gX11_stop_X2_push : GoodIn wsX11_stop (wsV RX11 341 RX2 yX2_push wsX2_push) := goodIn_app (goodIn_of _ (by decide +kernel)) ggX11_stop_X2_push
set_option maxRecDepth 20000 in
theorem ggX11_stop_X8_halt : GoodIn wsX11_stop wsX8_halt := goodIn_r _ [57, 49, 41, 39, 74, 75, 76, 77, 78, 79, 80, 81, 82, 83, 84, 85, 86, 87, 88] rfl (by decide +kernel)
set_option maxRecDepth 20000 in
theorem gX11_stop_X8_halt : GoodIn wsX11_stop (wsV RX11 358 RX8 yX8_halt wsX8_halt) := goodIn_app (goodIn_of _ (by decide +kernel)) ggX11_stop_X8_halt
theorem dX11_stop_0 : decode cX11_stop 0 = .ok (.aload_n 0, 1) := by decide +kernel
theorem dX11_stop_1 : decode cX11_stop 1 = .ok (.iload_n 1, 1) := by decide +kernel
theorem dX11_stop_2 : decode cX11_stop 2 = .ok (.invokevirtual 193, 3) := by decide +kernel
theorem dX11_stop_5 : decode cX11_stop 5 = .ok (.aload_n 0, 1) := by decide +kernel
theorem dX11_stop_6 : decode cX11_stop 6 = .ok (.getfield 67, 3) := by decide +kernel
theorem dX11_stop_9 : decode cX11_stop 9 = .ok (.getfield 139, 3) := by decide +kernel
theorem dX11_stop_12 : decode cX11_stop 12 = .ok (.getfield 324, 3) := by decide +kernel
theorem dX11_stop_15 : decode cX11_stop 15 = .ok (.iload_n 1, 1) := by decide +kernel
theorem dX11_stop_16 : decode cX11_stop 16 = .ok (.invokestatic 208, 3) := by decide +kernel
theorem dX11_stop_19 : decode cX11_stop 19 = .ok (.ifCond .ne 14, 3) := by decide +kernel
theorem dX11_stop_22 : decode cX11_stop 22 = .ok (.new 96, 3) := by decide +kernel
theorem dX11_stop_25 : decode cX11_stop 25 = .ok (.dup, 1) := by decide +kernel
theorem dX11_stop_26 : decode cX11_stop 26 = .ok (.ldc_w 356, 3) := by decide +kernel
theorem dX11_stop_29 : decode cX11_stop 29 = .ok (.invokespecial 100, 3) := by decide +kernel
theorem dX11_stop_32 : decode cX11_stop 32 = .ok (.athrow, 1) := by decide +kernel
theorem dX11_stop_33 : decode cX11_stop 33 = .ok (.aload_n 0, 1) := by decide +kernel
theorem dX11_stop_34 : decode cX11_stop 34 = .ok (.getfield 77, 3) := by decide +kernel
theorem dX11_stop_37 : decode cX11_stop 37 = .ok (.aload_n 0, 1) := by decide +kernel
theorem dX11_stop_38 : decode cX11_stop 38 = .ok (.getfield 67, 3) := by decide +kernel
theorem dX11_stop_41 : decode cX11_stop 41 = .ok (.getfield 139, 3) := by decide +kernel
theorem dX11_stop_44 : decode cX11_stop 44 = .ok (.invokevirtual 341, 3) := by decide +kernel
theorem dX11_stop_47 : decode cX11_stop 47 = .ok (.aload_n 0, 1) := by decide +kernel
theorem dX11_stop_48 : decode cX11_stop 48 = .ok (.getfield 67, 3) := by decide +kernel
theorem dX11_stop_51 : decode cX11_stop 51 = .ok (.getfield 139, 3) := by decide +kernel
theorem dX11_stop_54 : decode cX11_stop 54 = .ok (.iload_n 1, 1) := by decide +kernel
theorem dX11_stop_55 : decode cX11_stop 55 = .ok (.invokevirtual 358, 3) := by decide +kernel
theorem dX11_stop_58 : decode cX11_stop 58 = .ok (.ireturn, 1) := by decide +kernel
set_option maxRecDepth 20000 in
theorem ggX11_redo_X11_requireStep : GoodIn wsX11_redo wsX11_requireStep := goodIn_ca (goodIn_r _ [9, 10, 11, 3, 12, 13, 8, 14, 68, 69, 70, 71, 72, 73, 74, 75, 76, 77, 78, 79, 80, 81, 82, 83, 84, 85, 86, 87, 88, 89, 90, 91, 92, 93, 94, 95, 96, 97, 98, 99, 100, 101, 102, 103] rfl (by decide +kernel)) (goodIn_sub (fun _ h => List.mem_cons_of_mem _ (List.mem_append_right _ h)) (by decide +kernel))
set_option maxRecDepth 20000 in
theorem gX11_redo_X11_requireStep : GoodIn wsX11_redo (wsV RX11 193 RX11 yX11_requireStep wsX11_requireStep) := goodIn_app (goodIn_of _ (by decide +kernel)) ggX11_redo_X11_requireStep
set_option maxRecDepth 20000 in
theorem ggX11_redo_X3_isRedoable : GoodIn wsX11_redo wsX3_isRedoable := goodIn_r _ [19, 20, 21, 8, 22, 23, 24, 25, 18, 26, 27, 79, 80, 81, 82, 83, 104, 105, 106, 107, 108, 109, 110, 111, 112, 113, 114, 115, 116, 117, 118, 84, 85, 86, 87, 88, 89, 90, 91, 92, 93, 94, 95, 96, 97, 98, 99, 100] rfl (by decide +kernel)
set_option maxRecDepth 20000 in
theorem gX11_redo_X3_isRedoable : GoodIn wsX11_redo (wsV RX11 361 RX3 yX3_isRedoable wsX3_isRedoable) := goodIn_app (goodIn_of _ (by decide +kernel)) ggX11_redo_X3_isRedoable
set_option maxRecDepth 20000 in
theorem ggX11_redo_X2_push : GoodIn wsX11_redo wsX2_push := goodIn_r _ [32, 33, 34, 35, 36, 37, 38, 39, 40, 41, 42, 43, 44, 45, 46, 47, 48, 49, 50, 51, 52, 53, 54, 55, 56, 57, 58, 59, 60, 61, 62, 63, 119, 120, 121, 104, 105, 106, 107, 108, 109, 110, 111, 112, 113, 114, 115, 116, 117, 118] rfl (by decide +kernel)
set_option maxRecDepth 20000 in
theorem gX11_redo_X2_push : GoodIn wsX11_redo (wsV RX11 341 RX2 yX2_push wsX2_push) := goodIn_app (goodIn_of _ (by decide +kernel)) ggX11_redo_X2_push
set_option maxRecDepth 20000 in
theorem ggX11_redo_X8_discard : GoodIn wsX11_redo wsX8_discard := goodIn_r _ [67, 60, 52, 104, 105, 106, 107, 108, 109, 110, 111, 112, 113, 114, 115, 116, 117, 118] rfl (by decide +kernel)
set_option maxRecDepth 20000 in
theorem gX11_redo_X8_discard : GoodIn wsX11_redo (wsV RX11 366 RX8 yX8_discard wsX8_discard) := goodIn_app (goodIn_of _ (by decide +kernel)) ggX11_redo_X8_discard
theorem dX11_redo_0 : decode cX11_redo 0 = .ok (.aload_n 0, 1) := by decide +kernel
theorem dX11_redo_1 : decode cX11_redo 1 = .ok (.iload_n 1, 1) := by decide +kernel
theorem dX11_redo_2 : decode cX11_redo 2 = .ok (.invokevirtual 193, 3) := by decide +kernel
theorem dX11_redo_5 : decode cX11_redo 5 = .ok (.aload_n 0, 1) := by decide +kernel
theorem dX11_redo_6 : decode cX11_redo 6 = .ok (.getfield 67, 3) := by decide +kernel
theorem dX11_redo_9 : decode cX11_redo 9 = .ok (.iload_n 1, 1) := by decide +kernel
theorem dX11_redo_10 : decode cX11_redo 10 = .ok (.invokevirtual 361, 3) := by decide +kernel
theorem dX11_redo_13 : decode cX11_redo 13 = .ok (.ifCond .ne 14, 3) := by decide +kernel
theorem dX11_redo_16 : decode cX11_redo 16 = .ok (.new 96, 3) := by decide +kernel
theorem dX11_redo_19 : decode cX11_redo 19 = .ok (.dup, 1) := by decide +kernel
theorem dX11_redo_20 : decode cX11_redo 20 = .ok (.ldc_w 364, 3) := by decide +kernel
theorem dX11_redo_23 : decode cX11_redo 23 = .ok (.invokespecial 100, 3) := by decide +kernel
theorem dX11_redo_26 : decode cX11_redo 26 = .ok (.athrow, 1) := by decide +kernel
theorem dX11_redo_27 : decode cX11_redo 27 = .ok (.aload_n 0, 1) := by decide +kernel
theorem dX11_redo_28 : decode cX11_redo 28 = .ok (.getfield 77, 3) := by decide +kernel
theorem dX11_redo_31 : decode cX11_redo 31 = .ok (.aload_n 0, 1) := by decide +kernel
theorem dX11_redo_32 : decode cX11_redo 32 = .ok (.getfield 67, 3) := by decide +kernel
theorem dX11_redo_35 : decode cX11_redo 35 = .ok (.getfield 139, 3) := by decide +kernel
theorem dX11_redo_38 : decode cX11_redo 38 = .ok (.invokevirtual 341, 3) := by decide +kernel
theorem dX11_redo_41 : decode cX11_redo 41 = .ok (.aload_n 0, 1) := by decide +kernel
theorem dX11_redo_42 : decode cX11_redo 42 = .ok (.getfield 67, 3) := by decide +kernel
theorem dX11_redo_45 : decode cX11_redo 45 = .ok (.getfield 139, 3) := by decide +kernel
theorem dX11_redo_48 : decode cX11_redo 48 = .ok (.iload_n 1, 1) := by decide +kernel
theorem dX11_redo_49 : decode cX11_redo 49 = .ok (.invokevirtual 366, 3) := by decide +kernel
theorem dX11_redo_52 : decode cX11_redo 52 = .ok (.ireturn, 1) := by decide +kernel
set_option maxRecDepth 20000 in
theorem ggX11_setCooks_X11_requireCooks : GoodIn wsX11_setCooks wsX11_requireCooks := goodIn_ca (goodIn_r _ [7, 8, 9, 10, 11, 12, 6, 13, 14, 15, 16] rfl (by decide +kernel)) (goodIn_sub (fun _ h => List.mem_cons_of_mem _ (List.mem_append_right _ h)) (by decide +kernel))
set_option maxRecDepth 20000 in
theorem gX11_setCooks_X11_requireCooks : GoodIn wsX11_setCooks (wsV RX11 304 RX11 yX11_requireCooks wsX11_requireCooks) := goodIn_app (goodIn_of _ (by decide +kernel)) ggX11_setCooks_X11_requireCooks
set_option maxRecDepth 20000 in
theorem ggX11_setCooks_X2_push : GoodIn wsX11_setCooks wsX2_push := goodIn_r _ [21, 22, 23, 24, 25, 26, 27, 28, 29, 30, 31, 32, 33, 34, 35, 36, 37, 38, 39, 40, 41, 42, 43, 44, 45, 46, 47, 48, 49, 50, 51, 52, 84, 85, 86, 69, 70, 71, 72, 73, 74, 75, 76, 77, 78, 79, 80, 81, 82, 83] rfl (by decide +kernel)
set_option maxRecDepth 20000 in
theorem gX11_setCooks_X2_push : GoodIn wsX11_setCooks (wsV RX11 341 RX2 yX2_push wsX2_push) := goodIn_app (goodIn_of _ (by decide +kernel)) ggX11_setCooks_X2_push
theorem dX11_setCooks_0 : decode cX11_setCooks 0 = .ok (.aload_n 0, 1) := by decide +kernel
theorem dX11_setCooks_1 : decode cX11_setCooks 1 = .ok (.iload_n 1, 1) := by decide +kernel
theorem dX11_setCooks_2 : decode cX11_setCooks 2 = .ok (.invokevirtual 304, 3) := by decide +kernel
theorem dX11_setCooks_5 : decode cX11_setCooks 5 = .ok (.aload_n 0, 1) := by decide +kernel
theorem dX11_setCooks_6 : decode cX11_setCooks 6 = .ok (.getfield 77, 3) := by decide +kernel
theorem dX11_setCooks_9 : decode cX11_setCooks 9 = .ok (.aload_n 0, 1) := by decide +kernel
theorem dX11_setCooks_10 : decode cX11_setCooks 10 = .ok (.getfield 67, 3) := by decide +kernel
theorem dX11_setCooks_13 : decode cX11_setCooks 13 = .ok (.getfield 139, 3) := by decide +kernel
theorem dX11_setCooks_16 : decode cX11_setCooks 16 = .ok (.invokevirtual 341, 3) := by decide +kernel
theorem dX11_setCooks_19 : decode cX11_setCooks 19 = .ok (.aload_n 0, 1) := by decide +kernel
theorem dX11_setCooks_20 : decode cX11_setCooks 20 = .ok (.getfield 67, 3) := by decide +kernel
theorem dX11_setCooks_23 : decode cX11_setCooks 23 = .ok (.getfield 139, 3) := by decide +kernel
theorem dX11_setCooks_26 : decode cX11_setCooks 26 = .ok (.getfield 143, 3) := by decide +kernel
theorem dX11_setCooks_29 : decode cX11_setCooks 29 = .ok (.istore_n 2, 1) := by decide +kernel
theorem dX11_setCooks_30 : decode cX11_setCooks 30 = .ok (.aload_n 0, 1) := by decide +kernel
theorem dX11_setCooks_31 : decode cX11_setCooks 31 = .ok (.getfield 67, 3) := by decide +kernel
theorem dX11_setCooks_34 : decode cX11_setCooks 34 = .ok (.getfield 139, 3) := by decide +kernel
theorem dX11_setCooks_37 : decode cX11_setCooks 37 = .ok (.iload_n 1, 1) := by decide +kernel
theorem dX11_setCooks_38 : decode cX11_setCooks 38 = .ok (.putfield 143, 3) := by decide +kernel
theorem dX11_setCooks_41 : decode cX11_setCooks 41 = .ok (.iload_n 2, 1) := by decide +kernel
theorem dX11_setCooks_42 : decode cX11_setCooks 42 = .ok (.ireturn, 1) := by decide +kernel
set_option maxRecDepth 20000 in
theorem ggX11_setDuration_X11_requireStep : GoodIn wsX11_setDuration wsX11_requireStep := goodIn_ca (goodIn_r _ [9, 10, 11, 4, 12, 13, 8, 14, 55, 56, 57, 58, 59, 60, 61, 62, 63, 64, 65, 66, 67, 68, 69, 70, 86, 87, 88, 89, 90, 91, 92, 93, 94, 95, 96, 97, 98, 99, 100, 101, 102, 103, 104, 105] rfl (by decide +kernel)) (goodIn_sub (fun _ h => List.mem_cons_of_mem _ (List.mem_append_right _ h)) (by decide +kernel))
set_option maxRecDepth 20000 in
theorem gX11_setDuration_X11_requireStep : GoodIn wsX11_setDuration (wsV RX11 193 RX11 yX11_requireStep wsX11_requireStep) := goodIn_app (goodIn_of _ (by decide +kernel)) ggX11_setDuration_X11_requireStep
set_option maxRecDepth 20000 in
theorem ggX11_setDuration_X11_isDuration : GoodIn wsX11_setDuration wsX11_isDuration := goodIn_r _ [18, 12, 13, 8, 14] rfl (by decide +kernel)
set_option maxRecDepth 20000 in
theorem gX11_setDuration_X11_isDuration : GoodIn wsX11_setDuration (wsV RX11 369 RX11 yX11_isDuration wsX11_isDuration) := goodIn_app (goodIn_of _ (by decide +kernel)) ggX11_setDuration_X11_isDuration
set_option maxRecDepth 20000 in
theorem ggX11_setDuration_X2_push : GoodIn wsX11_setDuration wsX2_push := goodIn_r _ [23, 24, 25, 26, 27, 28, 29, 30, 31, 32, 33, 34, 35, 36, 37, 38, 39, 40, 41, 42, 43, 44, 45, 46, 47, 48, 49, 50, 51, 52, 53, 54, 106, 107, 108, 71, 72, 73, 74, 75, 76, 77, 78, 79, 80, 81, 82, 83, 84, 85] rfl (by decide +kernel)
set_option maxRecDepth 20000 in
theorem gX11_setDuration_X2_push : GoodIn wsX11_setDuration (wsV RX11 341 RX2 yX2_push wsX2_push) := goodIn_app (goodIn_of _ (by decide +kernel)) ggX11_setDuration_X2_push
theorem dX11_setDuration_0 : decode cX11_setDuration 0 = .ok (.aload_n 0, 1) := by decide +kernel
theorem dX11_setDuration_1 : decode cX11_setDuration 1 = .ok (.iload_n 1, 1) := by decide +kernel
theorem dX11_setDuration_2 : decode cX11_setDuration 2 = .ok (.invokevirtual 193, 3) := by decide +kernel
theorem dX11_setDuration_5 : decode cX11_setDuration 5 = .ok (.aload_n 0, 1) := by decide +kernel
theorem dX11_setDuration_6 : decode cX11_setDuration 6 = .ok (.iload_n 2, 1) := by decide +kernel
theorem dX11_setDuration_7 : decode cX11_setDuration 7 = .ok (.invokevirtual 369, 3) := by decide +kernel
theorem dX11_setDuration_10 : decode cX11_setDuration 10 = .ok (.ifCond .ne 14, 3) := by decide +kernel
theorem dX11_setDuration_13 : decode cX11_setDuration 13 = .ok (.new 109, 3) := by decide +kernel
theorem dX11_setDuration_16 : decode cX11_setDuration 16 = .ok (.dup, 1) := by decide +kernel
theorem dX11_setDuration_17 : decode cX11_setDuration 17 = .ok (.ldc_w 372, 3) := by decide +kernel
theorem dX11_setDuration_20 : decode cX11_setDuration 20 = .ok (.invokespecial 113, 3) := by decide +kernel
theorem dX11_setDuration_23 : decode cX11_setDuration 23 = .ok (.athrow, 1) := by decide +kernel
theorem dX11_setDuration_24 : decode cX11_setDuration 24 = .ok (.aload_n 0, 1) := by decide +kernel
theorem dX11_setDuration_25 : decode cX11_setDuration 25 = .ok (.getfield 77, 3) := by decide +kernel
theorem dX11_setDuration_28 : decode cX11_setDuration 28 = .ok (.aload_n 0, 1) := by decide +kernel
theorem dX11_setDuration_29 : decode cX11_setDuration 29 = .ok (.getfield 67, 3) := by decide +kernel
theorem dX11_setDuration_32 : decode cX11_setDuration 32 = .ok (.getfield 139, 3) := by decide +kernel
theorem dX11_setDuration_35 : decode cX11_setDuration 35 = .ok (.invokevirtual 341, 3) := by decide +kernel
theorem dX11_setDuration_38 : decode cX11_setDuration 38 = .ok (.aload_n 0, 1) := by decide +kernel
theorem dX11_setDuration_39 : decode cX11_setDuration 39 = .ok (.getfield 67, 3) := by decide +kernel
theorem dX11_setDuration_42 : decode cX11_setDuration 42 = .ok (.getfield 139, 3) := by decide +kernel
theorem dX11_setDuration_45 : decode cX11_setDuration 45 = .ok (.getfield 196, 3) := by decide +kernel
theorem dX11_setDuration_48 : decode cX11_setDuration 48 = .ok (.iload_n 1, 1) := by decide +kernel
theorem dX11_setDuration_49 : decode cX11_setDuration 49 = .ok (.iaload, 1) := by decide +kernel
theorem dX11_setDuration_50 : decode cX11_setDuration 50 = .ok (.istore_n 3, 1) := by decide +kernel
theorem dX11_setDuration_51 : decode cX11_setDuration 51 = .ok (.aload_n 0, 1) := by decide +kernel
theorem dX11_setDuration_52 : decode cX11_setDuration 52 = .ok (.getfield 67, 3) := by decide +kernel
theorem dX11_setDuration_55 : decode cX11_setDuration 55 = .ok (.getfield 139, 3) := by decide +kernel
theorem dX11_setDuration_58 : decode cX11_setDuration 58 = .ok (.getfield 196, 3) := by decide +kernel
theorem dX11_setDuration_61 : decode cX11_setDuration 61 = .ok (.iload_n 1, 1) := by decide +kernel
theorem dX11_setDuration_62 : decode cX11_setDuration 62 = .ok (.iload_n 2, 1) := by decide +kernel
theorem dX11_setDuration_63 : decode cX11_setDuration 63 = .ok (.iastore, 1) := by decide +kernel
theorem dX11_setDuration_64 : decode cX11_setDuration 64 = .ok (.iload_n 3, 1) := by decide +kernel
theorem dX11_setDuration_65 : decode cX11_setDuration 65 = .ok (.ireturn, 1) := by decide +kernel
set_option maxRecDepth 20000 in
theorem ggX11_serve_X3_servingObstacle : GoodIn wsX11_serve wsX3_servingObstacle := goodIn_r _ [9, 10, 11, 12, 13, 14, 15, 16, 17, 18, 19, 20, 8, 21, 22, 23, 24, 73, 74, 75, 76, 77, 78, 79, 80, 81, 82, 83, 84, 85, 86, 87, 88, 89, 90, 91, 92, 93, 94, 95, 96, 97, 98, 99, 100, 101, 102, 103, 104, 105, 106, 107, 108, 109, 110, 111, 112] rfl (by decide +kernel)
set_option maxRecDepth 20000 in
theorem gX11_serve_X3_servingObstacle : GoodIn wsX11_serve (wsV RX11 280 RX3 yX3_servingObstacle wsX3_servingObstacle) := goodIn_app (goodIn_of _ (by decide +kernel)) ggX11_serve_X3_servingObstacle
set_option maxRecDepth 20000 in
theorem ggX11_serve_X2_push : GoodIn wsX11_serve wsX2_push := goodIn_r _ [29, 30, 31, 32, 33, 34, 35, 36, 37, 38, 39, 40, 41, 42, 43, 44, 45, 46, 47, 48, 49, 50, 51, 52, 53, 54, 55, 56, 57, 58, 59, 60, 113, 114, 115, 78, 79, 80, 81, 82, 83, 84, 85, 86, 87, 88, 89, 90, 91, 92] rfl (by decide +kernel)
set_option maxRecDepth 20000 in
theorem gX11_serve_X2_push : GoodIn wsX11_serve (wsV RX11 341 RX2 yX2_push wsX2_push) := goodIn_app (goodIn_of _ (by decide +kernel)) ggX11_serve_X2_push
set_option maxRecDepth 20000 in
theorem ggX11_serve_X3_dishTaste : GoodIn wsX11_serve wsX3_dishTaste := goodIn_r _ [21, 10, 11, 22, 23, 24, 73, 74, 75, 76, 77, 78, 79, 80, 81, 82, 83, 84, 85, 86, 87, 88, 89, 90, 91, 92, 93, 94, 95, 96, 97, 98, 99, 100, 101, 102, 103, 104, 105, 106, 107, 108, 109, 110, 111, 112] rfl (by decide +kernel)
set_option maxRecDepth 20000 in
theorem gX11_serve_X3_dishTaste : GoodIn wsX11_serve (wsV RX11 152 RX3 yX3_dishTaste wsX3_dishTaste) := goodIn_app (goodIn_of _ (by decide +kernel)) ggX11_serve_X3_dishTaste
theorem dX11_serve_0 : decode cX11_serve 0 = .ok (.aload_n 0, 1) := by decide +kernel
theorem dX11_serve_1 : decode cX11_serve 1 = .ok (.getfield 67, 3) := by decide +kernel
theorem dX11_serve_4 : decode cX11_serve 4 = .ok (.invokevirtual 280, 3) := by decide +kernel
theorem dX11_serve_7 : decode cX11_serve 7 = .ok (.ifCond .eq 14, 3) := by decide +kernel
theorem dX11_serve_10 : decode cX11_serve 10 = .ok (.new 96, 3) := by decide +kernel
theorem dX11_serve_13 : decode cX11_serve 13 = .ok (.dup, 1) := by decide +kernel
theorem dX11_serve_14 : decode cX11_serve 14 = .ok (.ldc_w 374, 3) := by decide +kernel
theorem dX11_serve_17 : decode cX11_serve 17 = .ok (.invokespecial 100, 3) := by decide +kernel
theorem dX11_serve_20 : decode cX11_serve 20 = .ok (.athrow, 1) := by decide +kernel
theorem dX11_serve_21 : decode cX11_serve 21 = .ok (.aload_n 0, 1) := by decide +kernel
theorem dX11_serve_22 : decode cX11_serve 22 = .ok (.getfield 77, 3) := by decide +kernel
theorem dX11_serve_25 : decode cX11_serve 25 = .ok (.aload_n 0, 1) := by decide +kernel
theorem dX11_serve_26 : decode cX11_serve 26 = .ok (.getfield 67, 3) := by decide +kernel
theorem dX11_serve_29 : decode cX11_serve 29 = .ok (.getfield 139, 3) := by decide +kernel
theorem dX11_serve_32 : decode cX11_serve 32 = .ok (.invokevirtual 341, 3) := by decide +kernel
theorem dX11_serve_35 : decode cX11_serve 35 = .ok (.aload_n 0, 1) := by decide +kernel
theorem dX11_serve_36 : decode cX11_serve 36 = .ok (.getfield 67, 3) := by decide +kernel
theorem dX11_serve_39 : decode cX11_serve 39 = .ok (.getfield 139, 3) := by decide +kernel
theorem dX11_serve_42 : decode cX11_serve 42 = .ok (.iconst 1, 1) := by decide +kernel
theorem dX11_serve_43 : decode cX11_serve 43 = .ok (.putfield 350, 3) := by decide +kernel
theorem dX11_serve_46 : decode cX11_serve 46 = .ok (.aload_n 0, 1) := by decide +kernel
theorem dX11_serve_47 : decode cX11_serve 47 = .ok (.getfield 67, 3) := by decide +kernel
theorem dX11_serve_50 : decode cX11_serve 50 = .ok (.invokevirtual 152, 3) := by decide +kernel
theorem dX11_serve_53 : decode cX11_serve 53 = .ok (.ireturn, 1) := by decide +kernel
set_option maxRecDepth 20000 in
theorem ggX11_runScript_X6_read : GoodIn wsX11_runScript wsX6_read := goodIn_r _ [9, 10, 11, 12, 13, 14, 15, 16, 17, 18, 19, 20, 21, 22, 23, 24, 25, 26, 27, 28, 29, 30, 31, 32, 33, 34, 35, 36, 37, 38, 39, 40, 41, 42, 43, 8, 44, 45, 46, 47, 48, 49, 50, 51, 52, 53, 54, 55, 56, 57, 58, 59, 60, 61, 62, 63, 64, 65, 66, 67, 68, 69, 70, 71, 72, 73, 74, 75, 76, 77, 78, 79, 80, 81, 82, 83, 84, 85, 86, 87, 88, 89, 90, 91, 92, 93, 94, 95, 96, 97, 98, 99, 100, 101, 102, 103, 104, 105, 106, 107, 108, 109, 110, 111, 112, 113, 114, 115, 116, 117, 118, 119, 120, 121, 122, 123, 124, 125, 126, 127, 128, 129, 130, 131, 132, 133, 134, 135, 136, 137, 138, 355, 356, 357, 358, 359, 360, 361, 362, 363, 364, 365, 353, 354, 366, 367, 368] rfl (by decide +kernel)
set_option maxRecDepth 20000 in
theorem gX11_runScript_X6_read : GoodIn wsX11_runScript (wsV RX11 376 RX6 yX6_read wsX6_read) := goodIn_app (goodIn_of _ (by decide +kernel)) ggX11_runScript_X6_read
set_option maxRecDepth 20000 in
theorem ggX11_runScript_X11_requireNoError : GoodIn wsX11_runScript wsX11_requireNoError := goodIn_ca (goodIn_r _ [142, 143, 144, 145, 320, 321, 322, 323, 324, 325, 326, 327, 328, 329, 330, 360, 361, 362, 363, 364, 365] rfl (by decide +kernel)) (goodIn_sub (fun _ h => List.mem_cons_of_mem _ (List.mem_append_right _ h)) (by decide +kernel))
set_option maxRecDepth 20000 in
theorem gX11_runScript_X11_requireNoError : GoodIn wsX11_runScript (wsV RX11 114 RX11 yX11_requireNoError wsX11_requireNoError) := goodIn_app (goodIn_of _ (by decide +kernel)) ggX11_runScript_X11_requireNoError
set_option maxRecDepth 20000 in
theorem ggX11_runScript_X2_push : GoodIn wsX11_runScript wsX2_push := goodIn_r _ [150, 151, 152, 153, 154, 155, 156, 157, 158, 159, 160, 161, 162, 163, 164, 165, 166, 167, 168, 169, 170, 171, 172, 173, 174, 175, 176, 177, 178, 179, 180, 181, 369, 370, 371, 372, 373, 374, 375, 376, 377, 378, 379, 380, 381, 382, 383, 384, 385, 386] rfl (by decide +kernel)
set_option maxRecDepth 20000 in
theorem gX11_runScript_X2_push : GoodIn wsX11_runScript (wsV RX11 341 RX2 yX2_push wsX2_push) := goodIn_app (goodIn_of _ (by decide +kernel)) ggX11_runScript_X2_push
set_option maxRecDepth 20000 in
theorem ggX11_runScript_X11_isAllowed : GoodIn wsX11_runScript wsX11_isAllowed := goodIn_r _ [185, 186, 2, 187, 188, 189, 190, 191, 192, 193, 194, 195, 196, 31, 197, 198, 30, 32, 199, 200, 201, 202, 203, 204, 205, 206, 207, 208, 209, 210, 211, 212, 213, 214, 215, 216, 217, 218, 219, 220, 221, 222, 223, 224, 225, 226, 227, 228, 229, 230, 231, 232, 233, 234, 235, 236, 237, 238, 239, 240, 241, 242, 320, 321, 322, 323, 324, 325, 326, 327, 328, 329, 330, 331, 332, 333, 334, 335, 372, 373, 374, 375, 376, 377, 378, 379, 380, 381, 382, 383, 384, 385, 386, 336, 337, 338, 339, 340, 341, 342, 343, 344, 345, 346, 347, 348, 349, 350, 351, 352, 366, 367, 368] rfl (by decide +kernel)
set_option maxRecDepth 20000 in
theorem gX11_runScript_X11_isAllowed : GoodIn wsX11_runScript (wsV RX11 390 RX11 yX11_isAllowed wsX11_isAllowed) := goodIn_app (goodIn_of _ (by decide +kernel)) ggX11_runScript_X11_isAllowed
set_option maxRecDepth 20000 in
theorem ggX11_runScript_X11_carryOut : GoodIn wsX11_runScript wsX11_carryOut := goodIn_r _ [246, 186, 2, 187, 188, 189, 190, 191, 192, 193, 247, 248, 249, 213, 250, 251, 252, 253, 254, 220, 255, 215, 256, 257, 258, 259, 260, 208, 31, 209, 261, 262, 263, 264, 265, 266, 267, 268, 269, 270, 271, 272, 273, 274, 275, 276, 277, 278, 161, 279, 169, 170, 180, 280, 281, 282, 283, 216, 217, 218, 219, 284, 285, 286, 287, 171, 178, 181, 288, 289, 290, 291, 292, 293, 294, 295, 233, 234, 235, 236, 237, 238, 296, 297, 298, 299, 300, 301, 302, 303, 304, 305, 306, 307, 308, 309, 310, 311, 177, 172, 179, 312, 313, 314, 315, 167, 316, 317, 318, 319, 320, 321, 322, 323, 324, 325, 326, 327, 328, 329, 330, 331, 332, 333, 334, 335, 372, 373, 374, 375, 376, 377, 378, 379, 380, 381, 382, 383, 384, 385, 386, 336, 337, 338, 339, 340, 341, 342, 343, 344, 345, 346, 347, 348, 349, 350, 351, 352, 366, 367, 368] rfl (by decide +kernel)
set_option maxRecDepth 20000 in
theorem gX11_runScript_X11_carryOut : GoodIn wsX11_runScript (wsV RX11 394 RX11 yX11_carryOut wsX11_carryOut) := goodIn_app (goodIn_of _ (by decide +kernel)) ggX11_runScript_X11_carryOut
theorem dX11_runScript_0 : decode cX11_runScript 0 = .ok (.aload_n 0, 1) := by decide +kernel
