theorem dX11_append_57 : decode cX11_append 57 = .ok (.getfield 41, 3) := by decide +kernel
theorem dX11_append_60 : decode cX11_append 60 = .ok (.iload 5, 2) := by decide +kernel
theorem dX11_append_62 : decode cX11_append 62 = .ok (.invokevirtual 102, 3) := by decide +kernel
theorem dX11_append_65 : decode cX11_append 65 = .ok (.aload_n 0, 1) := by decide +kernel
theorem dX11_append_66 : decode cX11_append 66 = .ok (.getfield 41, 3) := by decide +kernel
theorem dX11_append_69 : decode cX11_append 69 = .ok (.getfield 37, 3) := by decide +kernel
theorem dX11_append_72 : decode cX11_append 72 = .ok (.ireturn, 1) := by decide +kernel
set_option maxRecDepth 20000 in
theorem ggX11_truncate_X11_isWithin : GoodIn wsX11_truncate wsX11_isWithin := goodIn_r _ [7] rfl (by decide +kernel)
set_option maxRecDepth 20000 in
theorem gX11_truncate_X11_isWithin : GoodIn wsX11_truncate (va_wsS RX11 105 yX11_isWithin wsX11_isWithin) := goodIn_app (goodIn_of _ (by decide +kernel)) ggX11_truncate_X11_isWithin
theorem dX11_truncate_0 : decode cX11_truncate 0 = .ok (.iload_n 1, 1) := by decide +kernel
theorem dX11_truncate_1 : decode cX11_truncate 1 = .ok (.iconst 0, 1) := by decide +kernel
theorem dX11_truncate_2 : decode cX11_truncate 2 = .ok (.aload_n 0, 1) := by decide +kernel
theorem dX11_truncate_3 : decode cX11_truncate 3 = .ok (.getfield 41, 3) := by decide +kernel
theorem dX11_truncate_6 : decode cX11_truncate 6 = .ok (.getfield 37, 3) := by decide +kernel
theorem dX11_truncate_9 : decode cX11_truncate 9 = .ok (.invokestatic 105, 3) := by decide +kernel
theorem dX11_truncate_12 : decode cX11_truncate 12 = .ok (.ifCond .ne 13, 3) := by decide +kernel
theorem dX11_truncate_15 : decode cX11_truncate 15 = .ok (.new 109, 3) := by decide +kernel
theorem dX11_truncate_18 : decode cX11_truncate 18 = .ok (.dup, 1) := by decide +kernel
theorem dX11_truncate_19 : decode cX11_truncate 19 = .ok (.ldc 111, 2) := by decide +kernel
theorem dX11_truncate_21 : decode cX11_truncate 21 = .ok (.invokespecial 113, 3) := by decide +kernel
theorem dX11_truncate_24 : decode cX11_truncate 24 = .ok (.athrow, 1) := by decide +kernel
theorem dX11_truncate_25 : decode cX11_truncate 25 = .ok (.aload_n 0, 1) := by decide +kernel
theorem dX11_truncate_26 : decode cX11_truncate 26 = .ok (.getfield 41, 3) := by decide +kernel
theorem dX11_truncate_29 : decode cX11_truncate 29 = .ok (.iload_n 1, 1) := by decide +kernel
theorem dX11_truncate_30 : decode cX11_truncate 30 = .ok (.putfield 37, 3) := by decide +kernel
theorem dX11_truncate_33 : decode cX11_truncate 33 = .ok (.iload_n 1, 1) := by decide +kernel
theorem dX11_truncate_34 : decode cX11_truncate 34 = .ok (.ireturn, 1) := by decide +kernel
set_option maxRecDepth 20000 in
theorem ggX11_load_X7_readInto : GoodIn wsX11_load wsX7_readInto := goodIn_r _ [11, 12, 13, 14, 15, 16, 17, 18, 19, 20, 21, 22, 23, 24, 25, 26, 27, 28, 29, 30, 31, 32, 33, 34, 35, 36, 37, 38, 39, 40, 41, 42, 43, 44, 45, 46, 47, 48, 49, 50, 51, 52, 53, 54, 55, 56, 57, 10, 58, 59, 60, 61, 62, 63, 64, 65, 66, 67, 68, 69, 70, 71, 72, 73, 74, 75, 76, 77, 78, 79, 80, 81, 82, 83, 84, 85, 86, 87, 88, 89, 90, 91, 92, 93, 94, 95, 96, 97, 98, 99, 100, 101, 102, 103, 104, 105, 106, 107, 108, 109, 110, 111, 112, 113, 114, 115, 116, 117, 118, 119, 120, 121, 122, 123, 124, 125, 126, 127, 128, 129, 130, 131, 132, 133, 134, 135, 136, 137, 138, 139, 140, 141, 142, 143, 144, 145, 146, 147, 148, 149, 150, 151, 152, 153, 154, 155, 156, 157, 158, 159, 160, 161, 162, 163, 164, 165, 166, 167, 168, 169, 170, 171, 172, 173, 174, 175, 176, 177, 178, 179, 180, 181, 182, 183, 184, 185, 186, 187, 188, 189, 190, 271, 251, 252, 253, 254, 255, 256, 257, 258, 259, 260, 261, 262, 263, 264, 265, 266, 267, 268, 269, 270, 272, 273, 274, 275, 276, 277, 241, 242, 278, 279, 280, 281] rfl (by decide +kernel)
set_option maxRecDepth 20000 in
theorem gX11_load_X7_readInto : GoodIn wsX11_load (wsV RX11 33 RX7 yX7_readInto wsX7_readInto) := goodIn_app (goodIn_of _ (by decide +kernel)) ggX11_load_X7_readInto
set_option maxRecDepth 20000 in
theorem ggX11_load_X11_requireNoError : GoodIn wsX11_load wsX11_requireNoError := goodIn_ca (goodIn_r _ [194, 195, 196, 197, 230, 231, 232, 233, 234, 235, 236, 237, 238, 239, 240, 272, 273, 274, 275, 276, 277] rfl (by decide +kernel)) (goodIn_sub (fun _ h => List.mem_cons_of_mem _ (List.mem_append_right _ h)) (by decide +kernel))
set_option maxRecDepth 20000 in
theorem gX11_load_X11_requireNoError : GoodIn wsX11_load (wsV RX11 114 RX11 yX11_requireNoError wsX11_requireNoError) := goodIn_app (goodIn_of _ (by decide +kernel)) ggX11_load_X11_requireNoError
set_option maxRecDepth 20000 in
theorem ggX11_load_X3_open : GoodIn wsX11_load wsX3_open := goodIn_r _ [202, 203, 204, 205, 206, 207, 208, 209, 210, 211, 212, 213, 214, 215, 216, 217, 218, 219, 220, 221, 222, 223, 224, 225, 226, 227, 228, 229, 27, 28, 29, 243, 244, 245, 246, 247, 251, 252, 253, 254, 255, 256, 257, 258, 259, 260, 261, 262, 263, 264, 265, 266, 267, 282, 283, 284, 285, 286, 287, 288, 289, 290, 291, 292, 293, 294, 295, 296] rfl (by decide +kernel)
set_option maxRecDepth 20000 in
theorem gX11_load_X3_open : GoodIn wsX11_load (wsV RX11 120 RX3 yX3_open wsX3_open) := goodIn_app (goodIn_of _ (by decide +kernel)) ggX11_load_X3_open
theorem dX11_load_0 : decode cX11_load 0 = .ok (.aload_n 0, 1) := by decide +kernel
theorem dX11_load_1 : decode cX11_load 1 = .ok (.getfield 52, 3) := by decide +kernel
theorem dX11_load_4 : decode cX11_load 4 = .ok (.aload_n 0, 1) := by decide +kernel
theorem dX11_load_5 : decode cX11_load 5 = .ok (.getfield 92, 3) := by decide +kernel
theorem dX11_load_8 : decode cX11_load 8 = .ok (.invokevirtual 33, 3) := by decide +kernel
theorem dX11_load_11 : decode cX11_load 11 = .ok (.aload_n 0, 1) := by decide +kernel
theorem dX11_load_12 : decode cX11_load 12 = .ok (.getfield 41, 3) := by decide +kernel
theorem dX11_load_15 : decode cX11_load 15 = .ok (.iconst 0, 1) := by decide +kernel
theorem dX11_load_16 : decode cX11_load 16 = .ok (.putfield 37, 3) := by decide +kernel
theorem dX11_load_19 : decode cX11_load 19 = .ok (.aload_n 0, 1) := by decide +kernel
theorem dX11_load_20 : decode cX11_load 20 = .ok (.invokevirtual 114, 3) := by decide +kernel
theorem dX11_load_23 : decode cX11_load 23 = .ok (.aload_n 0, 1) := by decide +kernel
theorem dX11_load_24 : decode cX11_load 24 = .ok (.getfield 67, 3) := by decide +kernel
theorem dX11_load_27 : decode cX11_load 27 = .ok (.getfield 117, 3) := by decide +kernel
theorem dX11_load_30 : decode cX11_load 30 = .ok (.astore_n 1, 1) := by decide +kernel
theorem dX11_load_31 : decode cX11_load 31 = .ok (.aload_n 0, 1) := by decide +kernel
theorem dX11_load_32 : decode cX11_load 32 = .ok (.getfield 67, 3) := by decide +kernel
theorem dX11_load_35 : decode cX11_load 35 = .ok (.aload_n 0, 1) := by decide +kernel
theorem dX11_load_36 : decode cX11_load 36 = .ok (.getfield 92, 3) := by decide +kernel
theorem dX11_load_39 : decode cX11_load 39 = .ok (.invokevirtual 120, 3) := by decide +kernel
theorem dX11_load_42 : decode cX11_load 42 = .ok (.aload_n 0, 1) := by decide +kernel
theorem dX11_load_43 : decode cX11_load 43 = .ok (.aload_n 1, 1) := by decide +kernel
theorem dX11_load_44 : decode cX11_load 44 = .ok (.putfield 92, 3) := by decide +kernel
theorem dX11_load_47 : decode cX11_load 47 = .ok (.iconst 0, 1) := by decide +kernel
theorem dX11_load_48 : decode cX11_load 48 = .ok (.istore_n 2, 1) := by decide +kernel
theorem dX11_load_49 : decode cX11_load 49 = .ok (.iload_n 2, 1) := by decide +kernel
theorem dX11_load_50 : decode cX11_load 50 = .ok (.iconst 2, 1) := by decide +kernel
theorem dX11_load_51 : decode cX11_load 51 = .ok (.if_icmp .ge 16, 3) := by decide +kernel
theorem dX11_load_54 : decode cX11_load 54 = .ok (.aload_n 0, 1) := by decide +kernel
theorem dX11_load_55 : decode cX11_load 55 = .ok (.getfield 88, 3) := by decide +kernel
theorem dX11_load_58 : decode cX11_load 58 = .ok (.iload_n 2, 1) := by decide +kernel
theorem dX11_load_59 : decode cX11_load 59 = .ok (.iconst 0, 1) := by decide +kernel
theorem dX11_load_60 : decode cX11_load 60 = .ok (.bastore, 1) := by decide +kernel
theorem dX11_load_61 : decode cX11_load 61 = .ok (.iinc 2 1, 3) := by decide +kernel
theorem dX11_load_64 : decode cX11_load 64 = .ok (.goto (-15), 3) := by decide +kernel
theorem dX11_load_67 : decode cX11_load 67 = .ok (.aload_n 0, 1) := by decide +kernel
theorem dX11_load_68 : decode cX11_load 68 = .ok (.getfield 77, 3) := by decide +kernel
theorem dX11_load_71 : decode cX11_load 71 = .ok (.iconst 0, 1) := by decide +kernel
theorem dX11_load_72 : decode cX11_load 72 = .ok (.putfield 123, 3) := by decide +kernel
theorem dX11_load_75 : decode cX11_load 75 = .ok (.aload_n 0, 1) := by decide +kernel
theorem dX11_load_76 : decode cX11_load 76 = .ok (.getfield 67, 3) := by decide +kernel
theorem dX11_load_79 : decode cX11_load 79 = .ok (.getfield 117, 3) := by decide +kernel
theorem dX11_load_82 : decode cX11_load 82 = .ok (.getfield 126, 3) := by decide +kernel
theorem dX11_load_85 : decode cX11_load 85 = .ok (.getfield 130, 3) := by decide +kernel
theorem dX11_load_88 : decode cX11_load 88 = .ok (.ireturn, 1) := by decide +kernel
theorem dX11_stepCount_0 : decode cX11_stepCount 0 = .ok (.aload_n 0, 1) := by decide +kernel
theorem dX11_stepCount_1 : decode cX11_stepCount 1 = .ok (.getfield 67, 3) := by decide +kernel
theorem dX11_stepCount_4 : decode cX11_stepCount 4 = .ok (.getfield 117, 3) := by decide +kernel
theorem dX11_stepCount_7 : decode cX11_stepCount 7 = .ok (.getfield 126, 3) := by decide +kernel
theorem dX11_stepCount_10 : decode cX11_stepCount 10 = .ok (.getfield 130, 3) := by decide +kernel
theorem dX11_stepCount_13 : decode cX11_stepCount 13 = .ok (.ireturn, 1) := by decide +kernel
theorem dX11_cooks_0 : decode cX11_cooks 0 = .ok (.aload_n 0, 1) := by decide +kernel
theorem dX11_cooks_1 : decode cX11_cooks 1 = .ok (.getfield 67, 3) := by decide +kernel
theorem dX11_cooks_4 : decode cX11_cooks 4 = .ok (.getfield 139, 3) := by decide +kernel
theorem dX11_cooks_7 : decode cX11_cooks 7 = .ok (.getfield 143, 3) := by decide +kernel
theorem dX11_cooks_10 : decode cX11_cooks 10 = .ok (.ireturn, 1) := by decide +kernel
theorem dX11_minute_0 : decode cX11_minute 0 = .ok (.aload_n 0, 1) := by decide +kernel
theorem dX11_minute_1 : decode cX11_minute 1 = .ok (.getfield 67, 3) := by decide +kernel
theorem dX11_minute_4 : decode cX11_minute 4 = .ok (.getfield 139, 3) := by decide +kernel
theorem dX11_minute_7 : decode cX11_minute 7 = .ok (.getfield 146, 3) := by decide +kernel
theorem dX11_minute_10 : decode cX11_minute 10 = .ok (.ireturn, 1) := by decide +kernel
theorem dX11_salt_0 : decode cX11_salt 0 = .ok (.aload_n 0, 1) := by decide +kernel
theorem dX11_salt_1 : decode cX11_salt 1 = .ok (.getfield 67, 3) := by decide +kernel
theorem dX11_salt_4 : decode cX11_salt 4 = .ok (.getfield 139, 3) := by decide +kernel
theorem dX11_salt_7 : decode cX11_salt 7 = .ok (.getfield 149, 3) := by decide +kernel
theorem dX11_salt_10 : decode cX11_salt 10 = .ok (.ireturn, 1) := by decide +kernel
set_option maxRecDepth 20000 in
theorem ggX11_taste_X3_dishTaste : GoodIn wsX11_taste wsX3_dishTaste := goodIn_r _ [6, 7, 8, 9, 10, 11, 23, 24, 25, 26, 27, 28, 29, 30, 31, 32, 33, 34, 35, 36, 37, 38, 39, 40, 41, 42, 43, 44, 45, 46, 47, 48, 49, 50, 51, 52, 53, 54, 55, 56, 57, 58, 59, 60, 61, 62] rfl (by decide +kernel)
set_option maxRecDepth 20000 in
theorem gX11_taste_X3_dishTaste : GoodIn wsX11_taste (wsV RX11 152 RX3 yX3_dishTaste wsX3_dishTaste) := goodIn_app (goodIn_of _ (by decide +kernel)) ggX11_taste_X3_dishTaste
theorem dX11_taste_0 : decode cX11_taste 0 = .ok (.aload_n 0, 1) := by decide +kernel
theorem dX11_taste_1 : decode cX11_taste 1 = .ok (.getfield 67, 3) := by decide +kernel
theorem dX11_taste_4 : decode cX11_taste 4 = .ok (.invokevirtual 152, 3) := by decide +kernel
theorem dX11_taste_7 : decode cX11_taste 7 = .ok (.ireturn, 1) := by decide +kernel
set_option maxRecDepth 20000 in
theorem ggX11_starts_X11_sum : GoodIn wsX11_starts wsX11_sum := goodIn_r _ [5] rfl (by decide +kernel)
set_option maxRecDepth 20000 in
theorem gX11_starts_X11_sum : GoodIn wsX11_starts (va_wsS RX11 166 yX11_sum wsX11_sum) := goodIn_app (goodIn_of _ (by decide +kernel)) ggX11_starts_X11_sum
theorem dX11_starts_0 : decode cX11_starts 0 = .ok (.aload_n 0, 1) := by decide +kernel
theorem dX11_starts_1 : decode cX11_starts 1 = .ok (.getfield 67, 3) := by decide +kernel
theorem dX11_starts_4 : decode cX11_starts 4 = .ok (.getfield 139, 3) := by decide +kernel
theorem dX11_starts_7 : decode cX11_starts 7 = .ok (.getfield 162, 3) := by decide +kernel
theorem dX11_starts_10 : decode cX11_starts 10 = .ok (.aload_n 0, 1) := by decide +kernel
theorem dX11_starts_11 : decode cX11_starts 11 = .ok (.getfield 67, 3) := by decide +kernel
theorem dX11_starts_14 : decode cX11_starts 14 = .ok (.getfield 117, 3) := by decide +kernel
theorem dX11_starts_17 : decode cX11_starts 17 = .ok (.getfield 126, 3) := by decide +kernel
theorem dX11_starts_20 : decode cX11_starts 20 = .ok (.getfield 130, 3) := by decide +kernel
theorem dX11_starts_23 : decode cX11_starts 23 = .ok (.invokestatic 166, 3) := by decide +kernel
theorem dX11_starts_26 : decode cX11_starts 26 = .ok (.ireturn, 1) := by decide +kernel
set_option maxRecDepth 20000 in
theorem ggX11_completions_X11_sum : GoodIn wsX11_completions wsX11_sum := goodIn_r _ [5] rfl (by decide +kernel)
set_option maxRecDepth 20000 in
theorem gX11_completions_X11_sum : GoodIn wsX11_completions (va_wsS RX11 166 yX11_sum wsX11_sum) := goodIn_app (goodIn_of _ (by decide +kernel)) ggX11_completions_X11_sum
theorem dX11_completions_0 : decode cX11_completions 0 = .ok (.aload_n 0, 1) := by decide +kernel
theorem dX11_completions_1 : decode cX11_completions 1 = .ok (.getfield 67, 3) := by decide +kernel
theorem dX11_completions_4 : decode cX11_completions 4 = .ok (.getfield 139, 3) := by decide +kernel
theorem dX11_completions_7 : decode cX11_completions 7 = .ok (.getfield 170, 3) := by decide +kernel
theorem dX11_completions_10 : decode cX11_completions 10 = .ok (.aload_n 0, 1) := by decide +kernel
theorem dX11_completions_11 : decode cX11_completions 11 = .ok (.getfield 67, 3) := by decide +kernel
theorem dX11_completions_14 : decode cX11_completions 14 = .ok (.getfield 117, 3) := by decide +kernel
theorem dX11_completions_17 : decode cX11_completions 17 = .ok (.getfield 126, 3) := by decide +kernel
theorem dX11_completions_20 : decode cX11_completions 20 = .ok (.getfield 130, 3) := by decide +kernel
theorem dX11_completions_23 : decode cX11_completions 23 = .ok (.invokestatic 166, 3) := by decide +kernel
theorem dX11_completions_26 : decode cX11_completions 26 = .ok (.ireturn, 1) := by decide +kernel
set_option maxRecDepth 20000 in
theorem ggX11_burns_X11_sum : GoodIn wsX11_burns wsX11_sum := goodIn_r _ [5] rfl (by decide +kernel)
set_option maxRecDepth 20000 in
theorem gX11_burns_X11_sum : GoodIn wsX11_burns (va_wsS RX11 166 yX11_sum wsX11_sum) := goodIn_app (goodIn_of _ (by decide +kernel)) ggX11_burns_X11_sum
theorem dX11_burns_0 : decode cX11_burns 0 = .ok (.aload_n 0, 1) := by decide +kernel
theorem dX11_burns_1 : decode cX11_burns 1 = .ok (.getfield 67, 3) := by decide +kernel
theorem dX11_burns_4 : decode cX11_burns 4 = .ok (.getfield 139, 3) := by decide +kernel
theorem dX11_burns_7 : decode cX11_burns 7 = .ok (.getfield 173, 3) := by decide +kernel
theorem dX11_burns_10 : decode cX11_burns 10 = .ok (.aload_n 0, 1) := by decide +kernel
theorem dX11_burns_11 : decode cX11_burns 11 = .ok (.getfield 67, 3) := by decide +kernel
theorem dX11_burns_14 : decode cX11_burns 14 = .ok (.getfield 117, 3) := by decide +kernel
theorem dX11_burns_17 : decode cX11_burns 17 = .ok (.getfield 126, 3) := by decide +kernel
theorem dX11_burns_20 : decode cX11_burns 20 = .ok (.getfield 130, 3) := by decide +kernel
theorem dX11_burns_23 : decode cX11_burns 23 = .ok (.invokestatic 166, 3) := by decide +kernel
theorem dX11_burns_26 : decode cX11_burns 26 = .ok (.ireturn, 1) := by decide +kernel
theorem dX11_cookMinutes_0 : decode cX11_cookMinutes 0 = .ok (.aload_n 0, 1) := by decide +kernel
theorem dX11_cookMinutes_1 : decode cX11_cookMinutes 1 = .ok (.getfield 67, 3) := by decide +kernel
theorem dX11_cookMinutes_4 : decode cX11_cookMinutes 4 = .ok (.getfield 139, 3) := by decide +kernel
theorem dX11_cookMinutes_7 : decode cX11_cookMinutes 7 = .ok (.getfield 176, 3) := by decide +kernel
theorem dX11_cookMinutes_10 : decode cX11_cookMinutes 10 = .ok (.ireturn, 1) := by decide +kernel
set_option maxRecDepth 20000 in
theorem ggX11_panCapacity_X11_requirePan : GoodIn wsX11_panCapacity wsX11_requirePan := goodIn_ca (goodIn_r _ [6, 7, 8, 1, 9, 10, 5, 11, 12, 13, 14, 15, 16, 17, 18, 19, 20, 21, 22, 23, 24, 25, 26, 27, 28, 29, 30, 31, 32, 33, 34, 35, 36, 37, 38, 39, 40, 41, 42, 43, 44, 45, 46, 47] rfl (by decide +kernel)) (goodIn_sub (fun _ h => List.mem_cons_of_mem _ (List.mem_append_right _ h)) (by decide +kernel))
set_option maxRecDepth 20000 in
theorem gX11_panCapacity_X11_requirePan : GoodIn wsX11_panCapacity (wsV RX11 179 RX11 yX11_requirePan wsX11_requirePan) := goodIn_app (goodIn_of _ (by decide +kernel)) ggX11_panCapacity_X11_requirePan
theorem dX11_panCapacity_0 : decode cX11_panCapacity 0 = .ok (.aload_n 0, 1) := by decide +kernel
theorem dX11_panCapacity_1 : decode cX11_panCapacity 1 = .ok (.iload_n 1, 1) := by decide +kernel
theorem dX11_panCapacity_2 : decode cX11_panCapacity 2 = .ok (.invokevirtual 179, 3) := by decide +kernel
theorem dX11_panCapacity_5 : decode cX11_panCapacity 5 = .ok (.aload_n 0, 1) := by decide +kernel
theorem dX11_panCapacity_6 : decode cX11_panCapacity 6 = .ok (.getfield 67, 3) := by decide +kernel
theorem dX11_panCapacity_9 : decode cX11_panCapacity 9 = .ok (.getfield 117, 3) := by decide +kernel
theorem dX11_panCapacity_12 : decode cX11_panCapacity 12 = .ok (.getfield 182, 3) := by decide +kernel
theorem dX11_panCapacity_15 : decode cX11_panCapacity 15 = .ok (.iload_n 1, 1) := by decide +kernel
theorem dX11_panCapacity_16 : decode cX11_panCapacity 16 = .ok (.iaload, 1) := by decide +kernel
theorem dX11_panCapacity_17 : decode cX11_panCapacity 17 = .ok (.ireturn, 1) := by decide +kernel
set_option maxRecDepth 20000 in
theorem ggX11_duration_X11_requireStep : GoodIn wsX11_duration wsX11_requireStep := goodIn_ca (goodIn_r _ [6, 7, 8, 1, 9, 10, 5, 11, 12, 13, 14, 15, 16, 17, 18, 19, 20, 21, 22, 23, 24, 25, 26, 27, 43, 44, 45, 46, 47, 48, 49, 50, 51, 52, 53, 54, 55, 56, 57, 58, 59, 60, 61, 62] rfl (by decide +kernel)) (goodIn_sub (fun _ h => List.mem_cons_of_mem _ (List.mem_append_right _ h)) (by decide +kernel))
set_option maxRecDepth 20000 in
theorem gX11_duration_X11_requireStep : GoodIn wsX11_duration (wsV RX11 193 RX11 yX11_requireStep wsX11_requireStep) := goodIn_app (goodIn_of _ (by decide +kernel)) ggX11_duration_X11_requireStep
theorem dX11_duration_0 : decode cX11_duration 0 = .ok (.aload_n 0, 1) := by decide +kernel
theorem dX11_duration_1 : decode cX11_duration 1 = .ok (.iload_n 1, 1) := by decide +kernel
theorem dX11_duration_2 : decode cX11_duration 2 = .ok (.invokevirtual 193, 3) := by decide +kernel
theorem dX11_duration_5 : decode cX11_duration 5 = .ok (.aload_n 0, 1) := by decide +kernel
theorem dX11_duration_6 : decode cX11_duration 6 = .ok (.getfield 67, 3) := by decide +kernel
theorem dX11_duration_9 : decode cX11_duration 9 = .ok (.getfield 139, 3) := by decide +kernel
theorem dX11_duration_12 : decode cX11_duration 12 = .ok (.getfield 196, 3) := by decide +kernel
theorem dX11_duration_15 : decode cX11_duration 15 = .ok (.iload_n 1, 1) := by decide +kernel
theorem dX11_duration_16 : decode cX11_duration 16 = .ok (.iaload, 1) := by decide +kernel
theorem dX11_duration_17 : decode cX11_duration 17 = .ok (.ireturn, 1) := by decide +kernel
set_option maxRecDepth 20000 in
theorem ggX11_stepTaste_X11_requireStep : GoodIn wsX11_stepTaste wsX11_requireStep := goodIn_ca (goodIn_r _ [6, 7, 8, 1, 9, 10, 5, 11, 12, 13, 14, 15, 16, 17, 18, 19, 20, 21, 22, 23, 24, 25, 26, 27, 28, 29, 30, 31, 32, 33, 34, 35, 36, 37, 38, 39, 40, 41, 42, 43, 44, 45, 46, 47] rfl (by decide +kernel)) (goodIn_sub (fun _ h => List.mem_cons_of_mem _ (List.mem_append_right _ h)) (by decide +kernel))
set_option maxRecDepth 20000 in
theorem gX11_stepTaste_X11_requireStep : GoodIn wsX11_stepTaste (wsV RX11 193 RX11 yX11_requireStep wsX11_requireStep) := goodIn_app (goodIn_of _ (by decide +kernel)) ggX11_stepTaste_X11_requireStep
theorem dX11_stepTaste_0 : decode cX11_stepTaste 0 = .ok (.aload_n 0, 1) := by decide +kernel
theorem dX11_stepTaste_1 : decode cX11_stepTaste 1 = .ok (.iload_n 1, 1) := by decide +kernel
theorem dX11_stepTaste_2 : decode cX11_stepTaste 2 = .ok (.invokevirtual 193, 3) := by decide +kernel
theorem dX11_stepTaste_5 : decode cX11_stepTaste 5 = .ok (.aload_n 0, 1) := by decide +kernel
theorem dX11_stepTaste_6 : decode cX11_stepTaste 6 = .ok (.getfield 67, 3) := by decide +kernel
theorem dX11_stepTaste_9 : decode cX11_stepTaste 9 = .ok (.getfield 117, 3) := by decide +kernel
theorem dX11_stepTaste_12 : decode cX11_stepTaste 12 = .ok (.getfield 199, 3) := by decide +kernel
theorem dX11_stepTaste_15 : decode cX11_stepTaste 15 = .ok (.iload_n 1, 1) := by decide +kernel
theorem dX11_stepTaste_16 : decode cX11_stepTaste 16 = .ok (.iaload, 1) := by decide +kernel
theorem dX11_stepTaste_17 : decode cX11_stepTaste 17 = .ok (.ireturn, 1) := by decide +kernel
set_option maxRecDepth 20000 in
theorem ggX11_panType_X11_requireStep : GoodIn wsX11_panType wsX11_requireStep := goodIn_ca (goodIn_r _ [6, 7, 8, 1, 9, 10, 5, 11, 12, 13, 14, 15, 16, 17, 18, 19, 20, 21, 22, 23, 24, 25, 26, 27, 28, 29, 30, 31, 32, 33, 34, 35, 36, 37, 38, 39, 40, 41, 42, 43, 44, 45, 46, 47] rfl (by decide +kernel)) (goodIn_sub (fun _ h => List.mem_cons_of_mem _ (List.mem_append_right _ h)) (by decide +kernel))
set_option maxRecDepth 20000 in
theorem gX11_panType_X11_requireStep : GoodIn wsX11_panType (wsV RX11 193 RX11 yX11_requireStep wsX11_requireStep) := goodIn_app (goodIn_of _ (by decide +kernel)) ggX11_panType_X11_requireStep
theorem dX11_panType_0 : decode cX11_panType 0 = .ok (.aload_n 0, 1) := by decide +kernel
theorem dX11_panType_1 : decode cX11_panType 1 = .ok (.iload_n 1, 1) := by decide +kernel
theorem dX11_panType_2 : decode cX11_panType 2 = .ok (.invokevirtual 193, 3) := by decide +kernel
theorem dX11_panType_5 : decode cX11_panType 5 = .ok (.aload_n 0, 1) := by decide +kernel
theorem dX11_panType_6 : decode cX11_panType 6 = .ok (.getfield 67, 3) := by decide +kernel
theorem dX11_panType_9 : decode cX11_panType 9 = .ok (.getfield 117, 3) := by decide +kernel
theorem dX11_panType_12 : decode cX11_panType 12 = .ok (.getfield 202, 3) := by decide +kernel
theorem dX11_panType_15 : decode cX11_panType 15 = .ok (.iload_n 1, 1) := by decide +kernel
theorem dX11_panType_16 : decode cX11_panType 16 = .ok (.iaload, 1) := by decide +kernel
theorem dX11_panType_17 : decode cX11_panType 17 = .ok (.ireturn, 1) := by decide +kernel
set_option maxRecDepth 20000 in
theorem ggX11_isHot_X11_requireStep : GoodIn wsX11_isHot wsX11_requireStep := goodIn_ca (goodIn_r _ [6, 7, 8, 1, 9, 10, 5, 11, 15, 16, 17, 18, 19, 20, 21, 22, 23, 24, 25, 26, 27, 28, 29, 30, 31, 32, 33, 34, 35, 36, 37, 38, 39, 40, 41, 42, 43, 44, 45, 46, 47, 48, 49, 50] rfl (by decide +kernel)) (goodIn_sub (fun _ h => List.mem_cons_of_mem _ (List.mem_append_right _ h)) (by decide +kernel))
set_option maxRecDepth 20000 in
theorem gX11_isHot_X11_requireStep : GoodIn wsX11_isHot (wsV RX11 193 RX11 yX11_requireStep wsX11_requireStep) := goodIn_app (goodIn_of _ (by decide +kernel)) ggX11_isHot_X11_requireStep
set_option maxRecDepth 20000 in
theorem ggX11_isHot_X11_contains : GoodIn wsX11_isHot wsX11_contains := goodIn_r _ [14] rfl (by decide +kernel)
set_option maxRecDepth 20000 in
theorem gX11_isHot_X11_contains : GoodIn wsX11_isHot (va_wsS RX11 208 yX11_contains wsX11_contains) := goodIn_app (goodIn_of _ (by decide +kernel)) ggX11_isHot_X11_contains
theorem dX11_isHot_0 : decode cX11_isHot 0 = .ok (.aload_n 0, 1) := by decide +kernel
theorem dX11_isHot_1 : decode cX11_isHot 1 = .ok (.iload_n 1, 1) := by decide +kernel
theorem dX11_isHot_2 : decode cX11_isHot 2 = .ok (.invokevirtual 193, 3) := by decide +kernel
theorem dX11_isHot_5 : decode cX11_isHot 5 = .ok (.aload_n 0, 1) := by decide +kernel
theorem dX11_isHot_6 : decode cX11_isHot 6 = .ok (.getfield 67, 3) := by decide +kernel
theorem dX11_isHot_9 : decode cX11_isHot 9 = .ok (.getfield 117, 3) := by decide +kernel
theorem dX11_isHot_12 : decode cX11_isHot 12 = .ok (.getfield 205, 3) := by decide +kernel
theorem dX11_isHot_15 : decode cX11_isHot 15 = .ok (.iload_n 1, 1) := by decide +kernel
theorem dX11_isHot_16 : decode cX11_isHot 16 = .ok (.invokestatic 208, 3) := by decide +kernel
theorem dX11_isHot_19 : decode cX11_isHot 19 = .ok (.ireturn, 1) := by decide +kernel
set_option maxRecDepth 20000 in
theorem ggX11_isUnattended_X11_requireStep : GoodIn wsX11_isUnattended wsX11_requireStep := goodIn_ca (goodIn_r _ [6, 7, 8, 1, 9, 10, 5, 11, 15, 16, 17, 18, 19, 20, 21, 22, 23, 24, 25, 26, 27, 28, 29, 30, 31, 32, 33, 34, 35, 36, 37, 38, 39, 40, 41, 42, 43, 44, 45, 46, 47, 48, 49, 50] rfl (by decide +kernel)) (goodIn_sub (fun _ h => List.mem_cons_of_mem _ (List.mem_append_right _ h)) (by decide +kernel))
set_option maxRecDepth 20000 in
theorem gX11_isUnattended_X11_requireStep : GoodIn wsX11_isUnattended (wsV RX11 193 RX11 yX11_requireStep wsX11_requireStep) := goodIn_app (goodIn_of _ (by decide +kernel)) ggX11_isUnattended_X11_requireStep
set_option maxRecDepth 20000 in
theorem ggX11_isUnattended_X11_contains : GoodIn wsX11_isUnattended wsX11_contains := goodIn_r _ [14] rfl (by decide +kernel)
set_option maxRecDepth 20000 in
theorem gX11_isUnattended_X11_contains : GoodIn wsX11_isUnattended (va_wsS RX11 208 yX11_contains wsX11_contains) := goodIn_app (goodIn_of _ (by decide +kernel)) ggX11_isUnattended_X11_contains
theorem dX11_isUnattended_0 : decode cX11_isUnattended 0 = .ok (.aload_n 0, 1) := by decide +kernel
theorem dX11_isUnattended_1 : decode cX11_isUnattended 1 = .ok (.iload_n 1, 1) := by decide +kernel
theorem dX11_isUnattended_2 : decode cX11_isUnattended 2 = .ok (.invokevirtual 193, 3) := by decide +kernel
theorem dX11_isUnattended_5 : decode cX11_isUnattended 5 = .ok (.aload_n 0, 1) := by decide +kernel
theorem dX11_isUnattended_6 : decode cX11_isUnattended 6 = .ok (.getfield 67, 3) := by decide +kernel
theorem dX11_isUnattended_9 : decode cX11_isUnattended 9 = .ok (.getfield 117, 3) := by decide +kernel
theorem dX11_isUnattended_12 : decode cX11_isUnattended 12 = .ok (.getfield 212, 3) := by decide +kernel
theorem dX11_isUnattended_15 : decode cX11_isUnattended 15 = .ok (.iload_n 1, 1) := by decide +kernel
theorem dX11_isUnattended_16 : decode cX11_isUnattended 16 = .ok (.invokestatic 208, 3) := by decide +kernel
theorem dX11_isUnattended_19 : decode cX11_isUnattended 19 = .ok (.ireturn, 1) := by decide +kernel
set_option maxRecDepth 20000 in
theorem ggX11_predecessor_X11_requireStep : GoodIn wsX11_predecessor wsX11_requireStep := goodIn_ca (goodIn_r _ [6, 7, 8, 1, 9, 10, 5, 11, 12, 13, 14, 15, 16, 17, 18, 19, 20, 21, 22, 23, 24, 25, 26, 27, 28, 29, 30, 31, 32, 33, 34, 35, 36, 37, 38, 39, 40, 41, 42, 43, 44, 45, 46, 47] rfl (by decide +kernel)) (goodIn_sub (fun _ h => List.mem_cons_of_mem _ (List.mem_append_right _ h)) (by decide +kernel))
set_option maxRecDepth 20000 in
theorem gX11_predecessor_X11_requireStep : GoodIn wsX11_predecessor (wsV RX11 193 RX11 yX11_requireStep wsX11_requireStep) := goodIn_app (goodIn_of _ (by decide +kernel)) ggX11_predecessor_X11_requireStep
set_option maxRecDepth 20000 in
theorem ggX11_predecessor_X11_isWithin : GoodIn wsX11_predecessor wsX11_isWithin := goodIn_r _ [11] rfl (by decide +kernel)
set_option maxRecDepth 20000 in
theorem gX11_predecessor_X11_isWithin : GoodIn wsX11_predecessor (va_wsS RX11 105 yX11_isWithin wsX11_isWithin) := goodIn_app (goodIn_of _ (by decide +kernel)) ggX11_predecessor_X11_isWithin
theorem dX11_predecessor_0 : decode cX11_predecessor 0 = .ok (.aload_n 0, 1) := by decide +kernel
theorem dX11_predecessor_1 : decode cX11_predecessor 1 = .ok (.iload_n 1, 1) := by decide +kernel
theorem dX11_predecessor_2 : decode cX11_predecessor 2 = .ok (.invokevirtual 193, 3) := by decide +kernel
theorem dX11_predecessor_5 : decode cX11_predecessor 5 = .ok (.iload_n 2, 1) := by decide +kernel
theorem dX11_predecessor_6 : decode cX11_predecessor 6 = .ok (.iconst 0, 1) := by decide +kernel
theorem dX11_predecessor_7 : decode cX11_predecessor 7 = .ok (.aload_n 0, 1) := by decide +kernel
theorem dX11_predecessor_8 : decode cX11_predecessor 8 = .ok (.getfield 67, 3) := by decide +kernel
theorem dX11_predecessor_11 : decode cX11_predecessor 11 = .ok (.getfield 117, 3) := by decide +kernel
theorem dX11_predecessor_14 : decode cX11_predecessor 14 = .ok (.getfield 215, 3) := by decide +kernel
theorem dX11_predecessor_17 : decode cX11_predecessor 17 = .ok (.iload_n 1, 1) := by decide +kernel
theorem dX11_predecessor_18 : decode cX11_predecessor 18 = .ok (.iaload, 1) := by decide +kernel
theorem dX11_predecessor_19 : decode cX11_predecessor 19 = .ok (.iconst 1, 1) := by decide +kernel
theorem dX11_predecessor_20 : decode cX11_predecessor 20 = .ok (.isub, 1) := by decide +kernel
theorem dX11_predecessor_21 : decode cX11_predecessor 21 = .ok (.invokestatic 105, 3) := by decide +kernel
theorem dX11_predecessor_24 : decode cX11_predecessor 24 = .ok (.ifCond .ne 5, 3) := by decide +kernel
theorem dX11_predecessor_27 : decode cX11_predecessor 27 = .ok (.iconst (-1), 1) := by decide +kernel
theorem dX11_predecessor_28 : decode cX11_predecessor 28 = .ok (.ireturn, 1) := by decide +kernel
theorem dX11_predecessor_29 : decode cX11_predecessor 29 = .ok (.aload_n 0, 1) := by decide +kernel
theorem dX11_predecessor_30 : decode cX11_predecessor 30 = .ok (.getfield 67, 3) := by decide +kernel
theorem dX11_predecessor_33 : decode cX11_predecessor 33 = .ok (.getfield 117, 3) := by decide +kernel
theorem dX11_predecessor_36 : decode cX11_predecessor 36 = .ok (.getfield 218, 3) := by decide +kernel
theorem dX11_predecessor_39 : decode cX11_predecessor 39 = .ok (.iload_n 1, 1) := by decide +kernel
theorem dX11_predecessor_40 : decode cX11_predecessor 40 = .ok (.aaload, 1) := by decide +kernel
theorem dX11_predecessor_41 : decode cX11_predecessor 41 = .ok (.iload_n 2, 1) := by decide +kernel
theorem dX11_predecessor_42 : decode cX11_predecessor 42 = .ok (.iaload, 1) := by decide +kernel
theorem dX11_predecessor_43 : decode cX11_predecessor 43 = .ok (.ireturn, 1) := by decide +kernel
set_option maxRecDepth 20000 in
theorem ggX11_status_X11_requireStep : GoodIn wsX11_status wsX11_requireStep := goodIn_ca (goodIn_r _ [6, 7, 8, 1, 9, 10, 5, 11, 22, 23, 24, 25, 26, 27, 28, 29, 30, 31, 32, 33, 34, 35, 36, 37, 38, 39, 40, 41, 42, 43, 44, 45, 46, 47, 48, 49, 50, 51, 52, 53, 54, 55, 56, 57] rfl (by decide +kernel)) (goodIn_sub (fun _ h => List.mem_cons_of_mem _ (List.mem_append_right _ h)) (by decide +kernel))
set_option maxRecDepth 20000 in
theorem gX11_status_X11_requireStep : GoodIn wsX11_status (wsV RX11 193 RX11 yX11_requireStep wsX11_requireStep) := goodIn_app (goodIn_of _ (by decide +kernel)) ggX11_status_X11_requireStep
set_option maxRecDepth 20000 in
theorem ggX11_status_X8_statusOf : GoodIn wsX11_status wsX8_statusOf := goodIn_r _ [16, 17, 18, 19, 20, 5, 21, 58, 59, 60, 61, 62, 63, 64, 65, 66, 67, 68, 69, 70, 71, 72] rfl (by decide +kernel)
set_option maxRecDepth 20000 in
theorem gX11_status_X8_statusOf : GoodIn wsX11_status (wsV RX11 158 RX8 yX8_statusOf wsX8_statusOf) := goodIn_app (goodIn_of _ (by decide +kernel)) ggX11_status_X8_statusOf
theorem dX11_status_0 : decode cX11_status 0 = .ok (.aload_n 0, 1) := by decide +kernel
theorem dX11_status_1 : decode cX11_status 1 = .ok (.iload_n 1, 1) := by decide +kernel
theorem dX11_status_2 : decode cX11_status 2 = .ok (.invokevirtual 193, 3) := by decide +kernel
theorem dX11_status_5 : decode cX11_status 5 = .ok (.aload_n 0, 1) := by decide +kernel
theorem dX11_status_6 : decode cX11_status 6 = .ok (.getfield 67, 3) := by decide +kernel
theorem dX11_status_9 : decode cX11_status 9 = .ok (.getfield 139, 3) := by decide +kernel
theorem dX11_status_12 : decode cX11_status 12 = .ok (.iload_n 1, 1) := by decide +kernel
theorem dX11_status_13 : decode cX11_status 13 = .ok (.invokevirtual 158, 3) := by decide +kernel
theorem dX11_status_16 : decode cX11_status 16 = .ok (.ireturn, 1) := by decide +kernel
set_option maxRecDepth 20000 in
theorem ggX11_remaining_X11_requireStep : GoodIn wsX11_remaining wsX11_requireStep := goodIn_ca (goodIn_r _ [6, 7, 8, 1, 9, 10, 5, 11, 12, 13, 14, 15, 16, 17, 18, 19, 20, 21, 22, 23, 24, 25, 26, 27, 43, 44, 45, 46, 47, 48, 49, 50, 51, 52, 53, 54, 55, 56, 57, 58, 59, 60, 61, 62] rfl (by decide +kernel)) (goodIn_sub (fun _ h => List.mem_cons_of_mem _ (List.mem_append_right _ h)) (by decide +kernel))
set_option maxRecDepth 20000 in
theorem gX11_remaining_X11_requireStep : GoodIn wsX11_remaining (wsV RX11 193 RX11 yX11_requireStep wsX11_requireStep) := goodIn_app (goodIn_of _ (by decide +kernel)) ggX11_remaining_X11_requireStep
theorem dX11_remaining_0 : decode cX11_remaining 0 = .ok (.aload_n 0, 1) := by decide +kernel
theorem dX11_remaining_1 : decode cX11_remaining 1 = .ok (.iload_n 1, 1) := by decide +kernel
theorem dX11_remaining_2 : decode cX11_remaining 2 = .ok (.invokevirtual 193, 3) := by decide +kernel
theorem dX11_remaining_5 : decode cX11_remaining 5 = .ok (.aload_n 0, 1) := by decide +kernel
theorem dX11_remaining_6 : decode cX11_remaining 6 = .ok (.getfield 67, 3) := by decide +kernel
theorem dX11_remaining_9 : decode cX11_remaining 9 = .ok (.getfield 139, 3) := by decide +kernel
theorem dX11_remaining_12 : decode cX11_remaining 12 = .ok (.getfield 255, 3) := by decide +kernel
theorem dX11_remaining_15 : decode cX11_remaining 15 = .ok (.iload_n 1, 1) := by decide +kernel
theorem dX11_remaining_16 : decode cX11_remaining 16 = .ok (.iaload, 1) := by decide +kernel
theorem dX11_remaining_17 : decode cX11_remaining 17 = .ok (.ireturn, 1) := by decide +kernel
set_option maxRecDepth 20000 in
theorem ggX11_age_X11_requireStep : GoodIn wsX11_age wsX11_requireStep := goodIn_ca (goodIn_r _ [6, 7, 8, 1, 9, 10, 5, 11, 12, 13, 14, 15, 16, 17, 18, 19, 20, 21, 22, 23, 24, 25, 26, 27, 43, 44, 45, 46, 47, 48, 49, 50, 51, 52, 53, 54, 55, 56, 57, 58, 59, 60, 61, 62] rfl (by decide +kernel)) (goodIn_sub (fun _ h => List.mem_cons_of_mem _ (List.mem_append_right _ h)) (by decide +kernel))
set_option maxRecDepth 20000 in
theorem gX11_age_X11_requireStep : GoodIn wsX11_age (wsV RX11 193 RX11 yX11_requireStep wsX11_requireStep) := goodIn_app (goodIn_of _ (by decide +kernel)) ggX11_age_X11_requireStep
theorem dX11_age_0 : decode cX11_age 0 = .ok (.aload_n 0, 1) := by decide +kernel
theorem dX11_age_1 : decode cX11_age 1 = .ok (.iload_n 1, 1) := by decide +kernel
theorem dX11_age_2 : decode cX11_age 2 = .ok (.invokevirtual 193, 3) := by decide +kernel
theorem dX11_age_5 : decode cX11_age 5 = .ok (.aload_n 0, 1) := by decide +kernel
theorem dX11_age_6 : decode cX11_age 6 = .ok (.getfield 67, 3) := by decide +kernel
theorem dX11_age_9 : decode cX11_age 9 = .ok (.getfield 139, 3) := by decide +kernel
theorem dX11_age_12 : decode cX11_age 12 = .ok (.getfield 258, 3) := by decide +kernel
theorem dX11_age_15 : decode cX11_age 15 = .ok (.iload_n 1, 1) := by decide +kernel
theorem dX11_age_16 : decode cX11_age 16 = .ok (.iaload, 1) := by decide +kernel
theorem dX11_age_17 : decode cX11_age 17 = .ok (.ireturn, 1) := by decide +kernel
set_option maxRecDepth 20000 in
theorem ggX11_isTakenUp_X11_requireStep : GoodIn wsX11_isTakenUp wsX11_requireStep := goodIn_ca (goodIn_r _ [6, 7, 8, 1, 9, 10, 5, 11, 22, 23, 24, 25, 26, 27, 28, 29, 30, 31, 32, 33, 34, 35, 36, 37, 53, 54, 55, 56, 57, 58, 59, 60, 61, 62, 63, 64, 65, 66, 67, 68, 69, 70, 71, 72] rfl (by decide +kernel)) (goodIn_sub (fun _ h => List.mem_cons_of_mem _ (List.mem_append_right _ h)) (by decide +kernel))
set_option maxRecDepth 20000 in
theorem gX11_isTakenUp_X11_requireStep : GoodIn wsX11_isTakenUp (wsV RX11 193 RX11 yX11_requireStep wsX11_requireStep) := goodIn_app (goodIn_of _ (by decide +kernel)) ggX11_isTakenUp_X11_requireStep
set_option maxRecDepth 20000 in
theorem ggX11_isTakenUp_X11_contains : GoodIn wsX11_isTakenUp wsX11_contains := goodIn_r _ [14] rfl (by decide +kernel)
set_option maxRecDepth 20000 in
theorem gX11_isTakenUp_X11_contains : GoodIn wsX11_isTakenUp (va_wsS RX11 208 yX11_contains wsX11_contains) := goodIn_app (goodIn_of _ (by decide +kernel)) ggX11_isTakenUp_X11_contains
set_option maxRecDepth 20000 in
theorem ggX11_isTakenUp_X3_isContinued : GoodIn wsX11_isTakenUp wsX3_isContinued := goodIn_r _ [19, 20, 21, 33, 34, 35, 36, 37, 53, 54, 55, 56, 57, 58, 59, 60, 61, 62, 63, 64, 65, 66, 67, 68, 69, 38, 39, 40, 41, 42, 43, 44, 45, 46, 47, 48, 49, 50, 51, 52] rfl (by decide +kernel)
set_option maxRecDepth 20000 in
theorem gX11_isTakenUp_X3_isContinued : GoodIn wsX11_isTakenUp (wsV RX11 264 RX3 yX3_isContinued wsX3_isContinued) := goodIn_app (goodIn_of _ (by decide +kernel)) ggX11_isTakenUp_X3_isContinued
theorem dX11_isTakenUp_0 : decode cX11_isTakenUp 0 = .ok (.aload_n 0, 1) := by decide +kernel
theorem dX11_isTakenUp_1 : decode cX11_isTakenUp 1 = .ok (.iload_n 1, 1) := by decide +kernel
theorem dX11_isTakenUp_2 : decode cX11_isTakenUp 2 = .ok (.invokevirtual 193, 3) := by decide +kernel
theorem dX11_isTakenUp_5 : decode cX11_isTakenUp 5 = .ok (.aload_n 0, 1) := by decide +kernel
theorem dX11_isTakenUp_6 : decode cX11_isTakenUp 6 = .ok (.getfield 67, 3) := by decide +kernel
theorem dX11_isTakenUp_9 : decode cX11_isTakenUp 9 = .ok (.getfield 139, 3) := by decide +kernel
theorem dX11_isTakenUp_12 : decode cX11_isTakenUp 12 = .ok (.getfield 261, 3) := by decide +kernel
theorem dX11_isTakenUp_15 : decode cX11_isTakenUp 15 = .ok (.iload_n 1, 1) := by decide +kernel
theorem dX11_isTakenUp_16 : decode cX11_isTakenUp 16 = .ok (.invokestatic 208, 3) := by decide +kernel
theorem dX11_isTakenUp_19 : decode cX11_isTakenUp 19 = .ok (.ifCond .eq 18, 3) := by decide +kernel
theorem dX11_isTakenUp_22 : decode cX11_isTakenUp 22 = .ok (.aload_n 0, 1) := by decide +kernel
theorem dX11_isTakenUp_23 : decode cX11_isTakenUp 23 = .ok (.getfield 67, 3) := by decide +kernel
theorem dX11_isTakenUp_26 : decode cX11_isTakenUp 26 = .ok (.iload_n 1, 1) := by decide +kernel
theorem dX11_isTakenUp_27 : decode cX11_isTakenUp 27 = .ok (.invokevirtual 264, 3) := by decide +kernel
theorem dX11_isTakenUp_30 : decode cX11_isTakenUp 30 = .ok (.ifCond .eq 7, 3) := by decide +kernel
theorem dX11_isTakenUp_33 : decode cX11_isTakenUp 33 = .ok (.iconst 1, 1) := by decide +kernel
theorem dX11_isTakenUp_34 : decode cX11_isTakenUp 34 = .ok (.goto 4, 3) := by decide +kernel
theorem dX11_isTakenUp_37 : decode cX11_isTakenUp 37 = .ok (.iconst 0, 1) := by decide +kernel
theorem dX11_isTakenUp_38 : decode cX11_isTakenUp 38 = .ok (.ireturn, 1) := by decide +kernel
set_option maxRecDepth 20000 in
theorem ggX11_whyNotServed_X3_servingObstacle : GoodIn wsX11_whyNotServed wsX3_servingObstacle := goodIn_r _ [6, 7, 8, 9, 10, 11, 12, 13, 14, 15, 16, 17, 5, 18, 19, 20, 21, 33, 34, 35, 36, 37, 38, 39, 40, 41, 42, 43, 44, 45, 46, 47, 48, 49, 50, 51, 52, 53, 54, 55, 56, 57, 58, 59, 60, 61, 62, 63, 64, 65, 66, 67, 68, 69, 70, 71, 72] rfl (by decide +kernel)
set_option maxRecDepth 20000 in
theorem gX11_whyNotServed_X3_servingObstacle : GoodIn wsX11_whyNotServed (wsV RX11 280 RX3 yX3_servingObstacle wsX3_servingObstacle) := goodIn_app (goodIn_of _ (by decide +kernel)) ggX11_whyNotServed_X3_servingObstacle
theorem dX11_whyNotServed_0 : decode cX11_whyNotServed 0 = .ok (.aload_n 0, 1) := by decide +kernel
theorem dX11_whyNotServed_1 : decode cX11_whyNotServed 1 = .ok (.getfield 67, 3) := by decide +kernel
theorem dX11_whyNotServed_4 : decode cX11_whyNotServed 4 = .ok (.invokevirtual 280, 3) := by decide +kernel
theorem dX11_whyNotServed_7 : decode cX11_whyNotServed 7 = .ok (.ireturn, 1) := by decide +kernel
set_option maxRecDepth 20000 in
theorem ggX11_inconsistencies_X11_sum : GoodIn wsX11_inconsistencies wsX11_sum := goodIn_r _ [5] rfl (by decide +kernel)
set_option maxRecDepth 20000 in
theorem gX11_inconsistencies_X11_sum : GoodIn wsX11_inconsistencies (va_wsS RX11 166 yX11_sum wsX11_sum) := goodIn_app (goodIn_of _ (by decide +kernel)) ggX11_inconsistencies_X11_sum
set_option maxRecDepth 20000 in
theorem ggX11_inconsistencies_J6_bitCount_0f7a4 : GoodIn wsX11_inconsistencies wsJ6_bitCount_0f7a4 := goodIn_r _ [9, 10, 11, 12] rfl (by decide +kernel)
set_option maxRecDepth 20000 in
theorem gX11_inconsistencies_J6_bitCount_0f7a4 : GoodIn wsX11_inconsistencies (va_wsS RX11 188 yJ6_bitCount_0f7a4 wsJ6_bitCount_0f7a4) := goodIn_app (goodIn_of _ (by decide +kernel)) ggX11_inconsistencies_J6_bitCount_0f7a4
set_option maxRecDepth 20000 in
theorem ggX11_inconsistencies_X3_prematureSteps : GoodIn wsX11_inconsistencies wsX3_prematureSteps := goodIn_r _ [17, 18, 19, 20, 4, 21, 33, 34, 35, 36, 37, 38, 39, 40, 41, 42, 43, 44, 45, 46, 47, 48, 49, 50, 51, 52, 53, 54, 55, 56, 57, 58, 59, 60, 61, 62, 63, 64, 65, 66, 67, 68, 69, 70, 71, 72] rfl (by decide +kernel)
set_option maxRecDepth 20000 in
theorem gX11_inconsistencies_X3_prematureSteps : GoodIn wsX11_inconsistencies (wsV RX11 330 RX3 yX3_prematureSteps wsX3_prematureSteps) := goodIn_app (goodIn_of _ (by decide +kernel)) ggX11_inconsistencies_X3_prematureSteps
theorem dX11_inconsistencies_0 : decode cX11_inconsistencies 0 = .ok (.aload_n 0, 1) := by decide +kernel
theorem dX11_inconsistencies_1 : decode cX11_inconsistencies 1 = .ok (.getfield 67, 3) := by decide +kernel
theorem dX11_inconsistencies_4 : decode cX11_inconsistencies 4 = .ok (.getfield 139, 3) := by decide +kernel
theorem dX11_inconsistencies_7 : decode cX11_inconsistencies 7 = .ok (.astore_n 1, 1) := by decide +kernel
theorem dX11_inconsistencies_8 : decode cX11_inconsistencies 8 = .ok (.aload_n 0, 1) := by decide +kernel
theorem dX11_inconsistencies_9 : decode cX11_inconsistencies 9 = .ok (.getfield 67, 3) := by decide +kernel
theorem dX11_inconsistencies_12 : decode cX11_inconsistencies 12 = .ok (.getfield 117, 3) := by decide +kernel
theorem dX11_inconsistencies_15 : decode cX11_inconsistencies 15 = .ok (.getfield 126, 3) := by decide +kernel
theorem dX11_inconsistencies_18 : decode cX11_inconsistencies 18 = .ok (.getfield 130, 3) := by decide +kernel
theorem dX11_inconsistencies_21 : decode cX11_inconsistencies 21 = .ok (.istore_n 2, 1) := by decide +kernel
theorem dX11_inconsistencies_22 : decode cX11_inconsistencies 22 = .ok (.aload_n 1, 1) := by decide +kernel
theorem dX11_inconsistencies_23 : decode cX11_inconsistencies 23 = .ok (.getfield 162, 3) := by decide +kernel
theorem dX11_inconsistencies_26 : decode cX11_inconsistencies 26 = .ok (.iload_n 2, 1) := by decide +kernel
theorem dX11_inconsistencies_27 : decode cX11_inconsistencies 27 = .ok (.invokestatic 166, 3) := by decide +kernel
theorem dX11_inconsistencies_30 : decode cX11_inconsistencies 30 = .ok (.aload_n 1, 1) := by decide +kernel
theorem dX11_inconsistencies_31 : decode cX11_inconsistencies 31 = .ok (.getfield 170, 3) := by decide +kernel
theorem dX11_inconsistencies_34 : decode cX11_inconsistencies 34 = .ok (.iload_n 2, 1) := by decide +kernel
theorem dX11_inconsistencies_35 : decode cX11_inconsistencies 35 = .ok (.invokestatic 166, 3) := by decide +kernel
theorem dX11_inconsistencies_38 : decode cX11_inconsistencies 38 = .ok (.isub, 1) := by decide +kernel
theorem dX11_inconsistencies_39 : decode cX11_inconsistencies 39 = .ok (.aload_n 1, 1) := by decide +kernel
theorem dX11_inconsistencies_40 : decode cX11_inconsistencies 40 = .ok (.getfield 324, 3) := by decide +kernel
theorem dX11_inconsistencies_43 : decode cX11_inconsistencies 43 = .ok (.invokestatic 188, 3) := by decide +kernel
theorem dX11_inconsistencies_46 : decode cX11_inconsistencies 46 = .ok (.isub, 1) := by decide +kernel
theorem dX11_inconsistencies_47 : decode cX11_inconsistencies 47 = .ok (.aload_n 1, 1) := by decide +kernel
theorem dX11_inconsistencies_48 : decode cX11_inconsistencies 48 = .ok (.getfield 327, 3) := by decide +kernel
theorem dX11_inconsistencies_51 : decode cX11_inconsistencies 51 = .ok (.isub, 1) := by decide +kernel
theorem dX11_inconsistencies_52 : decode cX11_inconsistencies 52 = .ok (.aload_n 0, 1) := by decide +kernel
theorem dX11_inconsistencies_53 : decode cX11_inconsistencies 53 = .ok (.getfield 67, 3) := by decide +kernel
theorem dX11_inconsistencies_56 : decode cX11_inconsistencies 56 = .ok (.invokevirtual 330, 3) := by decide +kernel
theorem dX11_inconsistencies_59 : decode cX11_inconsistencies 59 = .ok (.iadd, 1) := by decide +kernel
theorem dX11_inconsistencies_60 : decode cX11_inconsistencies 60 = .ok (.ireturn, 1) := by decide +kernel
set_option maxRecDepth 20000 in
theorem ggX11_pass_X11_isPassLength : GoodIn wsX11_pass wsX11_isPassLength := goodIn_r _ [11, 12, 13, 10, 14] rfl (by decide +kernel)
set_option maxRecDepth 20000 in
theorem gX11_pass_X11_isPassLength : GoodIn wsX11_pass (wsV RX11 333 RX11 yX11_isPassLength wsX11_isPassLength) := goodIn_app (goodIn_of _ (by decide +kernel)) ggX11_pass_X11_isPassLength
set_option maxRecDepth 20000 in
theorem ggX11_pass_X11_fitsClock : GoodIn wsX11_pass wsX11_fitsClock := goodIn_r _ [18, 6, 135, 136, 137, 138, 139, 140, 141, 142, 143, 144, 145, 146, 147, 148, 149, 150, 151, 152, 153, 154, 155, 156, 157, 158, 159, 160, 161, 162, 163, 164, 165] rfl (by decide +kernel)
set_option maxRecDepth 20000 in
theorem gX11_pass_X11_fitsClock : GoodIn wsX11_pass (wsV RX11 336 RX11 yX11_fitsClock wsX11_fitsClock) := goodIn_app (goodIn_of _ (by decide +kernel)) ggX11_pass_X11_fitsClock
set_option maxRecDepth 20000 in
theorem ggX11_pass_X2_push : GoodIn wsX11_pass wsX2_push := goodIn_r _ [23, 24, 25, 26, 27, 28, 29, 30, 31, 32, 33, 34, 35, 36, 37, 38, 39, 40, 41, 42, 43, 44, 45, 46, 47, 48, 49, 50, 51, 52, 53, 54, 166, 167, 168, 151, 152, 153, 154, 155, 156, 157, 158, 159, 160, 161, 162, 163, 164, 165] rfl (by decide +kernel)
set_option maxRecDepth 20000 in
theorem gX11_pass_X2_push : GoodIn wsX11_pass (wsV RX11 341 RX2 yX2_push wsX2_push) := goodIn_app (goodIn_of _ (by decide +kernel)) ggX11_pass_X2_push
set_option maxRecDepth 20000 in
theorem ggX11_pass_X3_runMinutes : GoodIn wsX11_pass wsX3_runMinutes := goodIn_r _ [59, 60, 61, 62, 58, 63, 64, 65, 66, 67, 68, 69, 70, 71, 72, 10, 73, 74, 75, 76, 77, 78, 79, 80, 81, 82, 83, 84, 85, 86, 87, 88, 89, 90, 91, 34, 92, 42, 43, 53, 93, 94, 95, 96, 97, 98, 99, 100, 101, 102, 103, 104, 44, 51, 54, 105, 106, 107, 108, 109, 110, 111, 112, 113, 114, 115, 116, 117, 118, 119, 120, 121, 122, 123, 124, 125, 126, 127, 128, 129, 130, 131, 132, 133, 134, 50, 45, 52, 146, 147, 148, 149, 150, 169, 170, 171, 172, 173, 174, 175, 176, 177, 178, 179, 180, 181, 182, 183, 184, 185, 186, 187, 188, 151, 152, 153, 154, 155, 156, 157, 158, 159, 160, 161, 162, 163, 164, 165] rfl (by decide +kernel)
set_option maxRecDepth 20000 in
theorem gX11_pass_X3_runMinutes : GoodIn wsX11_pass (wsV RX11 298 RX3 yX3_runMinutes wsX3_runMinutes) := goodIn_app (goodIn_of _ (by decide +kernel)) ggX11_pass_X3_runMinutes
theorem dX11_pass_0 : decode cX11_pass 0 = .ok (.aload_n 0, 1) := by decide +kernel
theorem dX11_pass_1 : decode cX11_pass 1 = .ok (.iload_n 1, 1) := by decide +kernel
theorem dX11_pass_2 : decode cX11_pass 2 = .ok (.invokevirtual 333, 3) := by decide +kernel
theorem dX11_pass_5 : decode cX11_pass 5 = .ok (.ifCond .ne 14, 3) := by decide +kernel
theorem dX11_pass_8 : decode cX11_pass 8 = .ok (.new 109, 3) := by decide +kernel
theorem dX11_pass_11 : decode cX11_pass 11 = .ok (.dup, 1) := by decide +kernel
theorem dX11_pass_12 : decode cX11_pass 12 = .ok (.ldc_w 296, 3) := by decide +kernel
theorem dX11_pass_15 : decode cX11_pass 15 = .ok (.invokespecial 113, 3) := by decide +kernel
theorem dX11_pass_18 : decode cX11_pass 18 = .ok (.athrow, 1) := by decide +kernel
theorem dX11_pass_19 : decode cX11_pass 19 = .ok (.aload_n 0, 1) := by decide +kernel
theorem dX11_pass_20 : decode cX11_pass 20 = .ok (.iload_n 1, 1) := by decide +kernel
theorem dX11_pass_21 : decode cX11_pass 21 = .ok (.invokevirtual 336, 3) := by decide +kernel
theorem dX11_pass_24 : decode cX11_pass 24 = .ok (.ifCond .ne 14, 3) := by decide +kernel
theorem dX11_pass_27 : decode cX11_pass 27 = .ok (.new 96, 3) := by decide +kernel
theorem dX11_pass_30 : decode cX11_pass 30 = .ok (.dup, 1) := by decide +kernel
theorem dX11_pass_31 : decode cX11_pass 31 = .ok (.ldc_w 339, 3) := by decide +kernel
theorem dX11_pass_34 : decode cX11_pass 34 = .ok (.invokespecial 100, 3) := by decide +kernel
theorem dX11_pass_37 : decode cX11_pass 37 = .ok (.athrow, 1) := by decide +kernel
theorem dX11_pass_38 : decode cX11_pass 38 = .ok (.aload_n 0, 1) := by decide +kernel
theorem dX11_pass_39 : decode cX11_pass 39 = .ok (.getfield 77, 3) := by decide +kernel
theorem dX11_pass_42 : decode cX11_pass 42 = .ok (.aload_n 0, 1) := by decide +kernel
theorem dX11_pass_43 : decode cX11_pass 43 = .ok (.getfield 67, 3) := by decide +kernel
theorem dX11_pass_46 : decode cX11_pass 46 = .ok (.getfield 139, 3) := by decide +kernel
theorem dX11_pass_49 : decode cX11_pass 49 = .ok (.invokevirtual 341, 3) := by decide +kernel
theorem dX11_pass_52 : decode cX11_pass 52 = .ok (.aload_n 0, 1) := by decide +kernel
theorem dX11_pass_53 : decode cX11_pass 53 = .ok (.getfield 67, 3) := by decide +kernel
theorem dX11_pass_56 : decode cX11_pass 56 = .ok (.iload_n 1, 1) := by decide +kernel
theorem dX11_pass_57 : decode cX11_pass 57 = .ok (.invokevirtual 298, 3) := by decide +kernel
theorem dX11_pass_60 : decode cX11_pass 60 = .ok (.ireturn, 1) := by decide +kernel
set_option maxRecDepth 20000 in
theorem ggX11_addSalt_X11_isSaltAmount : GoodIn wsX11_addSalt wsX11_isSaltAmount := goodIn_r _ [11, 12, 13, 10, 14] rfl (by decide +kernel)
set_option maxRecDepth 20000 in
theorem gX11_addSalt_X11_isSaltAmount : GoodIn wsX11_addSalt (wsV RX11 345 RX11 yX11_isSaltAmount wsX11_isSaltAmount) := goodIn_app (goodIn_of _ (by decide +kernel)) ggX11_addSalt_X11_isSaltAmount
set_option maxRecDepth 20000 in
theorem ggX11_addSalt_X2_push : GoodIn wsX11_addSalt wsX2_push := goodIn_r _ [19, 20, 21, 22, 23, 24, 25, 26, 27, 28, 29, 30, 31, 32, 33, 34, 35, 36, 37, 38, 39, 40, 41, 42, 43, 44, 45, 46, 47, 48, 49, 50, 91, 92, 93, 76, 77, 78, 79, 80, 81, 82, 83, 84, 85, 86, 87, 88, 89, 90] rfl (by decide +kernel)
set_option maxRecDepth 20000 in
theorem gX11_addSalt_X2_push : GoodIn wsX11_addSalt (wsV RX11 341 RX2 yX2_push wsX2_push) := goodIn_app (goodIn_of _ (by decide +kernel)) ggX11_addSalt_X2_push
set_option maxRecDepth 20000 in
theorem ggX11_addSalt_X3_dishTaste : GoodIn wsX11_addSalt wsX3_dishTaste := goodIn_r _ [55, 56, 57, 58, 10, 59, 71, 72, 73, 74, 75, 76, 77, 78, 79, 80, 81, 82, 83, 84, 85, 86, 87, 88, 89, 90, 94, 95, 96, 97, 98, 99, 100, 101, 102, 103, 104, 105, 106, 107, 108, 109, 110, 111, 112, 113] rfl (by decide +kernel)
set_option maxRecDepth 20000 in
theorem gX11_addSalt_X3_dishTaste : GoodIn wsX11_addSalt (wsV RX11 152 RX3 yX3_dishTaste wsX3_dishTaste) := goodIn_app (goodIn_of _ (by decide +kernel)) ggX11_addSalt_X3_dishTaste
theorem dX11_addSalt_0 : decode cX11_addSalt 0 = .ok (.aload_n 0, 1) := by decide +kernel
theorem dX11_addSalt_1 : decode cX11_addSalt 1 = .ok (.iload_n 1, 1) := by decide +kernel
theorem dX11_addSalt_2 : decode cX11_addSalt 2 = .ok (.invokevirtual 345, 3) := by decide +kernel
theorem dX11_addSalt_5 : decode cX11_addSalt 5 = .ok (.ifCond .ne 14, 3) := by decide +kernel
theorem dX11_addSalt_8 : decode cX11_addSalt 8 = .ok (.new 109, 3) := by decide +kernel
theorem dX11_addSalt_11 : decode cX11_addSalt 11 = .ok (.dup, 1) := by decide +kernel
theorem dX11_addSalt_12 : decode cX11_addSalt 12 = .ok (.ldc_w 348, 3) := by decide +kernel
theorem dX11_addSalt_15 : decode cX11_addSalt 15 = .ok (.invokespecial 113, 3) := by decide +kernel
theorem dX11_addSalt_18 : decode cX11_addSalt 18 = .ok (.athrow, 1) := by decide +kernel
theorem dX11_addSalt_19 : decode cX11_addSalt 19 = .ok (.aload_n 0, 1) := by decide +kernel
theorem dX11_addSalt_20 : decode cX11_addSalt 20 = .ok (.getfield 67, 3) := by decide +kernel
theorem dX11_addSalt_23 : decode cX11_addSalt 23 = .ok (.getfield 139, 3) := by decide +kernel
theorem dX11_addSalt_26 : decode cX11_addSalt 26 = .ok (.getfield 350, 3) := by decide +kernel
theorem dX11_addSalt_29 : decode cX11_addSalt 29 = .ok (.ifCond .eq 14, 3) := by decide +kernel
theorem dX11_addSalt_32 : decode cX11_addSalt 32 = .ok (.new 96, 3) := by decide +kernel
theorem dX11_addSalt_35 : decode cX11_addSalt 35 = .ok (.dup, 1) := by decide +kernel
theorem dX11_addSalt_36 : decode cX11_addSalt 36 = .ok (.ldc_w 354, 3) := by decide +kernel
theorem dX11_addSalt_39 : decode cX11_addSalt 39 = .ok (.invokespecial 100, 3) := by decide +kernel
theorem dX11_addSalt_42 : decode cX11_addSalt 42 = .ok (.athrow, 1) := by decide +kernel
theorem dX11_addSalt_43 : decode cX11_addSalt 43 = .ok (.aload_n 0, 1) := by decide +kernel
theorem dX11_addSalt_44 : decode cX11_addSalt 44 = .ok (.getfield 77, 3) := by decide +kernel
theorem dX11_addSalt_47 : decode cX11_addSalt 47 = .ok (.aload_n 0, 1) := by decide +kernel
theorem dX11_addSalt_48 : decode cX11_addSalt 48 = .ok (.getfield 67, 3) := by decide +kernel
theorem dX11_addSalt_51 : decode cX11_addSalt 51 = .ok (.getfield 139, 3) := by decide +kernel
theorem dX11_addSalt_54 : decode cX11_addSalt 54 = .ok (.invokevirtual 341, 3) := by decide +kernel
theorem dX11_addSalt_57 : decode cX11_addSalt 57 = .ok (.aload_n 0, 1) := by decide +kernel
theorem dX11_addSalt_58 : decode cX11_addSalt 58 = .ok (.getfield 67, 3) := by decide +kernel
theorem dX11_addSalt_61 : decode cX11_addSalt 61 = .ok (.getfield 139, 3) := by decide +kernel
theorem dX11_addSalt_64 : decode cX11_addSalt 64 = .ok (.dup, 1) := by decide +kernel
theorem dX11_addSalt_65 : decode cX11_addSalt 65 = .ok (.getfield 149, 3) := by decide +kernel
theorem dX11_addSalt_68 : decode cX11_addSalt 68 = .ok (.iload_n 1, 1) := by decide +kernel
theorem dX11_addSalt_69 : decode cX11_addSalt 69 = .ok (.iadd, 1) := by decide +kernel
theorem dX11_addSalt_70 : decode cX11_addSalt 70 = .ok (.putfield 149, 3) := by decide +kernel
theorem dX11_addSalt_73 : decode cX11_addSalt 73 = .ok (.aload_n 0, 1) := by decide +kernel
theorem dX11_addSalt_74 : decode cX11_addSalt 74 = .ok (.getfield 67, 3) := by decide +kernel
theorem dX11_addSalt_77 : decode cX11_addSalt 77 = .ok (.invokevirtual 152, 3) := by decide +kernel
theorem dX11_addSalt_80 : decode cX11_addSalt 80 = .ok (.ireturn, 1) := by decide +kernel
set_option maxRecDepth 20000 in
theorem ggX11_stop_X11_requireStep : GoodIn wsX11_stop wsX11_requireStep := goodIn_ca (goodIn_r _ [9, 10, 11, 3, 12, 13, 8, 14, 58, 59, 60, 61, 62, 63, 64, 65, 66, 67, 68, 69, 70, 71, 72, 73, 89, 90, 91, 92, 93, 94, 95, 96, 97, 98, 99, 100, 101, 102, 103, 104, 105, 106, 107, 108] rfl (by decide +kernel)) (goodIn_sub (fun _ h => List.mem_cons_of_mem _ (List.mem_append_right _ h)) (by decide +kernel))
set_option maxRecDepth 20000 in
theorem gX11_stop_X11_requireStep : GoodIn wsX11_stop (wsV RX11 193 RX11 yX11_requireStep wsX11_requireStep) := goodIn_app (goodIn_of _ (by decide +kernel)) ggX11_stop_X11_requireStep
set_option maxRecDepth 20000 in
theorem ggX11_stop_X11_contains : GoodIn wsX11_stop wsX11_contains := goodIn_r _ [17] rfl (by decide +kernel)
set_option maxRecDepth 20000 in
theorem gX11_stop_X11_contains : GoodIn wsX11_stop (va_wsS RX11 208 yX11_contains wsX11_contains) := goodIn_app (goodIn_of _ (by decide +kernel)) ggX11_stop_X11_contains
set_option maxRecDepth 20000 in
theorem ggX11_stop_X2_push : GoodIn wsX11_stop wsX2_push := goodIn_r _ [22, 23, 24, 25, 26, 27, 28, 29, 30, 31, 32, 33, 34, 35, 36, 37, 38, 39, 40, 41, 42, 43, 44, 45, 46, 47, 48, 49, 50, 51, 52, 53, 109, 110, 111, 74, 75, 76, 77, 78, 79, 80, 81, 82, 83, 84, 85, 86, 87, 88] rfl (by decide +kernel)
set_option maxRecDepth 20000 in
theorem gX11_stop_X2_push : GoodIn wsX11_stop (wsV RX11 341 RX2 yX2_push wsX2_push) := goodIn_app (goodIn_of _ (by decide +kernel)) ggX11_stop_X2_push
set_option maxRecDepth 20000 in
theorem ggX11_stop_X8_halt : GoodIn wsX11_stop wsX8_halt := goodIn_r _ [57, 49, 41, 39, 74, 75, 76, 77, 78, 79, 80, 81, 82, 83, 84, 85, 86, 87, 88] rfl (by decide +kernel)
set_option maxRecDepth 20000 in
theorem gX11_stop_X8_halt : GoodIn wsX11_stop (wsV RX11 358 RX8 yX8_halt wsX8_halt) := goodIn_app (goodIn_of _ (by decide +kernel)) ggX11_stop_X8_halt
theorem dX11_stop_0 : decode cX11_stop 0 = .ok (.aload_n 0, 1) := by decide +kernel
theorem dX11_stop_1 : decode cX11_stop 1 = .ok (.iload_n 1, 1) := by decide +kernel
theorem dX11_stop_2 : decode cX11_stop 2 = .ok (.invokevirtual 193, 3) := by decide +kernel
theorem dX11_stop_5 : decode cX11_stop 5 = .ok (.aload_n 0, 1) := by decide +kernel
theorem dX11_stop_6 : decode cX11_stop 6 = .ok (.getfield 67, 3) := by decide +kernel
theorem dX11_stop_9 : decode cX11_stop 9 = .ok (.getfield 139, 3) := by decide +kernel
theorem dX11_stop_12 : decode cX11_stop 12 = .ok (.getfield 324, 3) := by decide +kernel
theorem dX11_stop_15 : decode cX11_stop 15 = .ok (.iload_n 1, 1) := by decide +kernel
theorem dX11_stop_16 : decode cX11_stop 16 = .ok (.invokestatic 208, 3) := by decide +kernel
theorem dX11_stop_19 : decode cX11_stop 19 = .ok (.ifCond .ne 14, 3) := by decide +kernel
theorem dX11_stop_22 : decode cX11_stop 22 = .ok (.new 96, 3) := by decide +kernel
theorem dX11_stop_25 : decode cX11_stop 25 = .ok (.dup, 1) := by decide +kernel
theorem dX11_stop_26 : decode cX11_stop 26 = .ok (.ldc_w 356, 3) := by decide +kernel
theorem dX11_stop_29 : decode cX11_stop 29 = .ok (.invokespecial 100, 3) := by decide +kernel
theorem dX11_stop_32 : decode cX11_stop 32 = .ok (.athrow, 1) := by decide +kernel
theorem dX11_stop_33 : decode cX11_stop 33 = .ok (.aload_n 0, 1) := by decide +kernel
theorem dX11_stop_34 : decode cX11_stop 34 = .ok (.getfield 77, 3) := by decide +kernel
theorem dX11_stop_37 : decode cX11_stop 37 = .ok (.aload_n 0, 1) := by decide +kernel
theorem dX11_stop_38 : decode cX11_stop 38 = .ok (.getfield 67, 3) := by decide +kernel
theorem dX11_stop_41 : decode cX11_stop 41 = .ok (.getfield 139, 3) := by decide +kernel
theorem dX11_stop_44 : decode cX11_stop 44 = .ok (.invokevirtual 341, 3) := by decide +kernel
theorem dX11_stop_47 : decode cX11_stop 47 = .ok (.aload_n 0, 1) := by decide +kernel
theorem dX11_stop_48 : decode cX11_stop 48 = .ok (.getfield 67, 3) := by decide +kernel
theorem dX11_stop_51 : decode cX11_stop 51 = .ok (.getfield 139, 3) := by decide +kernel
theorem dX11_stop_54 : decode cX11_stop 54 = .ok (.iload_n 1, 1) := by decide +kernel
theorem dX11_stop_55 : decode cX11_stop 55 = .ok (.invokevirtual 358, 3) := by decide +kernel
theorem dX11_stop_58 : decode cX11_stop 58 = .ok (.ireturn, 1) := by decide +kernel
set_option maxRecDepth 20000 in
theorem ggX11_redo_X11_requireStep : GoodIn wsX11_redo wsX11_requireStep := goodIn_ca (goodIn_r _ [9, 10, 11, 3, 12, 13, 8, 14, 68, 69, 70, 71, 72, 73, 74, 75, 76, 77, 78, 79, 80, 81, 82, 83, 84, 85, 86, 87, 88, 89, 90, 91, 92, 93, 94, 95, 96, 97, 98, 99, 100, 101, 102, 103] rfl (by decide +kernel)) (goodIn_sub (fun _ h => List.mem_cons_of_mem _ (List.mem_append_right _ h)) (by decide +kernel))
set_option maxRecDepth 20000 in
theorem gX11_redo_X11_requireStep : GoodIn wsX11_redo (wsV RX11 193 RX11 yX11_requireStep wsX11_requireStep) := goodIn_app (goodIn_of _ (by decide +kernel)) ggX11_redo_X11_requireStep
set_option maxRecDepth 20000 in
theorem ggX11_redo_X3_isRedoable : GoodIn wsX11_redo wsX3_isRedoable := goodIn_r _ [19, 20, 21, 8, 22, 23, 24, 25, 18, 26, 27, 79, 80, 81, 82, 83, 104, 105, 106, 107, 108, 109, 110, 111, 112, 113, 114, 115, 116, 117, 118, 84, 85, 86, 87, 88, 89, 90, 91, 92, 93, 94, 95, 96, 97, 98, 99, 100] rfl (by decide +kernel)
set_option maxRecDepth 20000 in
theorem gX11_redo_X3_isRedoable : GoodIn wsX11_redo (wsV RX11 361 RX3 yX3_isRedoable wsX3_isRedoable) := goodIn_app (goodIn_of _ (by decide +kernel)) ggX11_redo_X3_isRedoable
set_option maxRecDepth 20000 in
theorem ggX11_redo_X2_push : GoodIn wsX11_redo wsX2_push := goodIn_r _ [32, 33, 34, 35, 36, 37, 38, 39, 40, 41, 42, 43, 44, 45, 46, 47, 48, 49, 50, 51, 52, 53, 54, 55, 56, 57, 58, 59, 60, 61, 62, 63, 119, 120, 121, 104, 105, 106, 107, 108, 109, 110, 111, 112, 113, 114, 115, 116, 117, 118] rfl (by decide +kernel)
set_option maxRecDepth 20000 in
theorem gX11_redo_X2_push : GoodIn wsX11_redo (wsV RX11 341 RX2 yX2_push wsX2_push) := goodIn_app (goodIn_of _ (by decide +kernel)) ggX11_redo_X2_push
set_option maxRecDepth 20000 in
theorem ggX11_redo_X8_discard : GoodIn wsX11_redo wsX8_discard := goodIn_r _ [67, 60, 52, 104, 105, 106, 107, 108, 109, 110, 111, 112, 113, 114, 115, 116, 117, 118] rfl (by decide +kernel)
set_option maxRecDepth 20000 in
theorem gX11_redo_X8_discard : GoodIn wsX11_redo (wsV RX11 366 RX8 yX8_discard wsX8_discard) := goodIn_app (goodIn_of _ (by decide +kernel)) ggX11_redo_X8_discard
theorem dX11_redo_0 : decode cX11_redo 0 = .ok (.aload_n 0, 1) := by decide +kernel
theorem dX11_redo_1 : decode cX11_redo 1 = .ok (.iload_n 1, 1) := by decide +kernel
theorem dX11_redo_2 : decode cX11_redo 2 = .ok (.invokevirtual 193, 3) := by decide +kernel
theorem dX11_redo_5 : decode cX11_redo 5 = .ok (.aload_n 0, 1) := by decide +kernel
theorem dX11_redo_6 : decode cX11_redo 6 = .ok (.getfield 67, 3) := by decide +kernel
theorem dX11_redo_9 : decode cX11_redo 9 = .ok (.iload_n 1, 1) := by decide +kernel
theorem dX11_redo_10 : decode cX11_redo 10 = .ok (.invokevirtual 361, 3) := by decide +kernel
theorem dX11_redo_13 : decode cX11_redo 13 = .ok (.ifCond .ne 14, 3) := by decide +kernel
theorem dX11_redo_16 : decode cX11_redo 16 = .ok (.new 96, 3) := by decide +kernel
theorem dX11_redo_19 : decode cX11_redo 19 = .ok (.dup, 1) := by decide +kernel
theorem dX11_redo_20 : decode cX11_redo 20 = .ok (.ldc_w 364, 3) := by decide +kernel
theorem dX11_redo_23 : decode cX11_redo 23 = .ok (.invokespecial 100, 3) := by decide +kernel
theorem dX11_redo_26 : decode cX11_redo 26 = .ok (.athrow, 1) := by decide +kernel
theorem dX11_redo_27 : decode cX11_redo 27 = .ok (.aload_n 0, 1) := by decide +kernel
theorem dX11_redo_28 : decode cX11_redo 28 = .ok (.getfield 77, 3) := by decide +kernel
theorem dX11_redo_31 : decode cX11_redo 31 = .ok (.aload_n 0, 1) := by decide +kernel
theorem dX11_redo_32 : decode cX11_redo 32 = .ok (.getfield 67, 3) := by decide +kernel
theorem dX11_redo_35 : decode cX11_redo 35 = .ok (.getfield 139, 3) := by decide +kernel
theorem dX11_redo_38 : decode cX11_redo 38 = .ok (.invokevirtual 341, 3) := by decide +kernel
theorem dX11_redo_41 : decode cX11_redo 41 = .ok (.aload_n 0, 1) := by decide +kernel
theorem dX11_redo_42 : decode cX11_redo 42 = .ok (.getfield 67, 3) := by decide +kernel
theorem dX11_redo_45 : decode cX11_redo 45 = .ok (.getfield 139, 3) := by decide +kernel
theorem dX11_redo_48 : decode cX11_redo 48 = .ok (.iload_n 1, 1) := by decide +kernel
theorem dX11_redo_49 : decode cX11_redo 49 = .ok (.invokevirtual 366, 3) := by decide +kernel
theorem dX11_redo_52 : decode cX11_redo 52 = .ok (.ireturn, 1) := by decide +kernel
set_option maxRecDepth 20000 in
theorem ggX11_setCooks_X11_requireCooks : GoodIn wsX11_setCooks wsX11_requireCooks := goodIn_ca (goodIn_r _ [7, 8, 9, 10, 11, 12, 6, 13, 14, 15, 16] rfl (by decide +kernel)) (goodIn_sub (fun _ h => List.mem_cons_of_mem _ (List.mem_append_right _ h)) (by decide +kernel))
set_option maxRecDepth 20000 in
theorem gX11_setCooks_X11_requireCooks : GoodIn wsX11_setCooks (wsV RX11 304 RX11 yX11_requireCooks wsX11_requireCooks) := goodIn_app (goodIn_of _ (by decide +kernel)) ggX11_setCooks_X11_requireCooks
set_option maxRecDepth 20000 in
theorem ggX11_setCooks_X2_push : GoodIn wsX11_setCooks wsX2_push := goodIn_r _ [21, 22, 23, 24, 25, 26, 27, 28, 29, 30, 31, 32, 33, 34, 35, 36, 37, 38, 39, 40, 41, 42, 43, 44, 45, 46, 47, 48, 49, 50, 51, 52, 84, 85, 86, 69, 70, 71, 72, 73, 74, 75, 76, 77, 78, 79, 80, 81, 82, 83] rfl (by decide +kernel)
set_option maxRecDepth 20000 in
theorem gX11_setCooks_X2_push : GoodIn wsX11_setCooks (wsV RX11 341 RX2 yX2_push wsX2_push) := goodIn_app (goodIn_of _ (by decide +kernel)) ggX11_setCooks_X2_push
theorem dX11_setCooks_0 : decode cX11_setCooks 0 = .ok (.aload_n 0, 1) := by decide +kernel
theorem dX11_setCooks_1 : decode cX11_setCooks 1 = .ok (.iload_n 1, 1) := by decide +kernel
theorem dX11_setCooks_2 : decode cX11_setCooks 2 = .ok (.invokevirtual 304, 3) := by decide +kernel
theorem dX11_setCooks_5 : decode cX11_setCooks 5 = .ok (.aload_n 0, 1) := by decide +kernel
theorem dX11_setCooks_6 : decode cX11_setCooks 6 = .ok (.getfield 77, 3) := by decide +kernel
theorem dX11_setCooks_9 : decode cX11_setCooks 9 = .ok (.aload_n 0, 1) := by decide +kernel
theorem dX11_setCooks_10 : decode cX11_setCooks 10 = .ok (.getfield 67, 3) := by decide +kernel
theorem dX11_setCooks_13 : decode cX11_setCooks 13 = .ok (.getfield 139, 3) := by decide +kernel
theorem dX11_setCooks_16 : decode cX11_setCooks 16 = .ok (.invokevirtual 341, 3) := by decide +kernel
theorem dX11_setCooks_19 : decode cX11_setCooks 19 = .ok (.aload_n 0, 1) := by decide +kernel
theorem dX11_setCooks_20 : decode cX11_setCooks 20 = .ok (.getfield 67, 3) := by decide +kernel
theorem dX11_setCooks_23 : decode cX11_setCooks 23 = .ok (.getfield 139, 3) := by decide +kernel
theorem dX11_setCooks_26 : decode cX11_setCooks 26 = .ok (.getfield 143, 3) := by decide +kernel
theorem dX11_setCooks_29 : decode cX11_setCooks 29 = .ok (.istore_n 2, 1) := by decide +kernel
theorem dX11_setCooks_30 : decode cX11_setCooks 30 = .ok (.aload_n 0, 1) := by decide +kernel
theorem dX11_setCooks_31 : decode cX11_setCooks 31 = .ok (.getfield 67, 3) := by decide +kernel
theorem dX11_setCooks_34 : decode cX11_setCooks 34 = .ok (.getfield 139, 3) := by decide +kernel
theorem dX11_setCooks_37 : decode cX11_setCooks 37 = .ok (.iload_n 1, 1) := by decide +kernel
theorem dX11_setCooks_38 : decode cX11_setCooks 38 = .ok (.putfield 143, 3) := by decide +kernel
theorem dX11_setCooks_41 : decode cX11_setCooks 41 = .ok (.iload_n 2, 1) := by decide +kernel
theorem dX11_setCooks_42 : decode cX11_setCooks 42 = .ok (.ireturn, 1) := by decide +kernel
set_option maxRecDepth 20000 in
theorem ggX11_setDuration_X11_requireStep : GoodIn wsX11_setDuration wsX11_requireStep := goodIn_ca (goodIn_r _ [9, 10, 11, 4, 12, 13, 8, 14, 55, 56, 57, 58, 59, 60, 61, 62, 63, 64, 65, 66, 67, 68, 69, 70, 86, 87, 88, 89, 90, 91, 92, 93, 94, 95, 96, 97, 98, 99, 100, 101, 102, 103, 104, 105] rfl (by decide +kernel)) (goodIn_sub (fun _ h => List.mem_cons_of_mem _ (List.mem_append_right _ h)) (by decide +kernel))
set_option maxRecDepth 20000 in
theorem gX11_setDuration_X11_requireStep : GoodIn wsX11_setDuration (wsV RX11 193 RX11 yX11_requireStep wsX11_requireStep) := goodIn_app (goodIn_of _ (by decide +kernel)) ggX11_setDuration_X11_requireStep
set_option maxRecDepth 20000 in
theorem ggX11_setDuration_X11_isDuration : GoodIn wsX11_setDuration wsX11_isDuration := goodIn_r _ [18, 12, 13, 8, 14] rfl (by decide +kernel)
set_option maxRecDepth 20000 in
theorem gX11_setDuration_X11_isDuration : GoodIn wsX11_setDuration (wsV RX11 369 RX11 yX11_isDuration wsX11_isDuration) := goodIn_app (goodIn_of _ (by decide +kernel)) ggX11_setDuration_X11_isDuration
set_option maxRecDepth 20000 in
theorem ggX11_setDuration_X2_push : GoodIn wsX11_setDuration wsX2_push := goodIn_r _ [23, 24, 25, 26, 27, 28, 29, 30, 31, 32, 33, 34, 35, 36, 37, 38, 39, 40, 41, 42, 43, 44, 45, 46, 47, 48, 49, 50, 51, 52, 53, 54, 106, 107, 108, 71, 72, 73, 74, 75, 76, 77, 78, 79, 80, 81, 82, 83, 84, 85] rfl (by decide +kernel)
set_option maxRecDepth 20000 in
theorem gX11_setDuration_X2_push : GoodIn wsX11_setDuration (wsV RX11 341 RX2 yX2_push wsX2_push) := goodIn_app (goodIn_of _ (by decide +kernel)) ggX11_setDuration_X2_push
theorem dX11_setDuration_0 : decode cX11_setDuration 0 = .ok (.aload_n 0, 1) := by decide +kernel
theorem dX11_setDuration_1 : decode cX11_setDuration 1 = .ok (.iload_n 1, 1) := by decide +kernel
theorem dX11_setDuration_2 : decode cX11_setDuration 2 = .ok (.invokevirtual 193, 3) := by decide +kernel
theorem dX11_setDuration_5 : decode cX11_setDuration 5 = .ok (.aload_n 0, 1) := by decide +kernel
theorem dX11_setDuration_6 : decode cX11_setDuration 6 = .ok (.iload_n 2, 1) := by decide +kernel
theorem dX11_setDuration_7 : decode cX11_setDuration 7 = .ok (.invokevirtual 369, 3) := by decide +kernel
theorem dX11_setDuration_10 : decode cX11_setDuration 10 = .ok (.ifCond .ne 14, 3) := by decide +kernel
theorem dX11_setDuration_13 : decode cX11_setDuration 13 = .ok (.new 109, 3) := by decide +kernel
theorem dX11_setDuration_16 : decode cX11_setDuration 16 = .ok (.dup, 1) := by decide +kernel
theorem dX11_setDuration_17 : decode cX11_setDuration 17 = .ok (.ldc_w 372, 3) := by decide +kernel
theorem dX11_setDuration_20 : decode cX11_setDuration 20 = .ok (.invokespecial 113, 3) := by decide +kernel
theorem dX11_setDuration_23 : decode cX11_setDuration 23 = .ok (.athrow, 1) := by decide +kernel
theorem dX11_setDuration_24 : decode cX11_setDuration 24 = .ok (.aload_n 0, 1) := by decide +kernel
theorem dX11_setDuration_25 : decode cX11_setDuration 25 = .ok (.getfield 77, 3) := by decide +kernel
theorem dX11_setDuration_28 : decode cX11_setDuration 28 = .ok (.aload_n 0, 1) := by decide +kernel
theorem dX11_setDuration_29 : decode cX11_setDuration 29 = .ok (.getfield 67, 3) := by decide +kernel
theorem dX11_setDuration_32 : decode cX11_setDuration 32 = .ok (.getfield 139, 3) := by decide +kernel
theorem dX11_setDuration_35 : decode cX11_setDuration 35 = .ok (.invokevirtual 341, 3) := by decide +kernel
theorem dX11_setDuration_38 : decode cX11_setDuration 38 = .ok (.aload_n 0, 1) := by decide +kernel
theorem dX11_setDuration_39 : decode cX11_setDuration 39 = .ok (.getfield 67, 3) := by decide +kernel
theorem dX11_setDuration_42 : decode cX11_setDuration 42 = .ok (.getfield 139, 3) := by decide +kernel
theorem dX11_setDuration_45 : decode cX11_setDuration 45 = .ok (.getfield 196, 3) := by decide +kernel
theorem dX11_setDuration_48 : decode cX11_setDuration 48 = .ok (.iload_n 1, 1) := by decide +kernel
theorem dX11_setDuration_49 : decode cX11_setDuration 49 = .ok (.iaload, 1) := by decide +kernel
theorem dX11_setDuration_50 : decode cX11_setDuration 50 = .ok (.istore_n 3, 1) := by decide +kernel
theorem dX11_setDuration_51 : decode cX11_setDuration 51 = .ok (.aload_n 0, 1) := by decide +kernel
theorem dX11_setDuration_52 : decode cX11_setDuration 52 = .ok (.getfield 67, 3) := by decide +kernel
theorem dX11_setDuration_55 : decode cX11_setDuration 55 = .ok (.getfield 139, 3) := by decide +kernel
theorem dX11_setDuration_58 : decode cX11_setDuration 58 = .ok (.getfield 196, 3) := by decide +kernel
theorem dX11_setDuration_61 : decode cX11_setDuration 61 = .ok (.iload_n 1, 1) := by decide +kernel
theorem dX11_setDuration_62 : decode cX11_setDuration 62 = .ok (.iload_n 2, 1) := by decide +kernel
theorem dX11_setDuration_63 : decode cX11_setDuration 63 = .ok (.iastore, 1) := by decide +kernel
theorem dX11_setDuration_64 : decode cX11_setDuration 64 = .ok (.iload_n 3, 1) := by decide +kernel
theorem dX11_setDuration_65 : decode cX11_setDuration 65 = .ok (.ireturn, 1) := by decide +kernel
set_option maxRecDepth 20000 in
theorem ggX11_serve_X3_servingObstacle : GoodIn wsX11_serve wsX3_servingObstacle := goodIn_r _ [9, 10, 11, 12, 13, 14, 15, 16, 17, 18, 19, 20, 8, 21, 22, 23, 24, 73, 74, 75, 76, 77, 78, 79, 80, 81, 82, 83, 84, 85, 86, 87, 88, 89, 90, 91, 92, 93, 94, 95, 96, 97, 98, 99, 100, 101, 102, 103, 104, 105, 106, 107, 108, 109, 110, 111, 112] rfl (by decide +kernel)
set_option maxRecDepth 20000 in
theorem gX11_serve_X3_servingObstacle : GoodIn wsX11_serve (wsV RX11 280 RX3 yX3_servingObstacle wsX3_servingObstacle) := goodIn_app (goodIn_of _ (by decide +kernel)) ggX11_serve_X3_servingObstacle
set_option maxRecDepth 20000 in
theorem ggX11_serve_X2_push : GoodIn wsX11_serve wsX2_push := goodIn_r _ [29, 30, 31, 32, 33, 34, 35, 36, 37, 38, 39, 40, 41, 42, 43, 44, 45, 46, 47, 48, 49, 50, 51, 52, 53, 54, 55, 56, 57, 58, 59, 60, 113, 114, 115, 78, 79, 80, 81, 82, 83, 84, 85, 86, 87, 88, 89, 90, 91, 92] rfl (by decide +kernel)
set_option maxRecDepth 20000 in
theorem gX11_serve_X2_push : GoodIn wsX11_serve (wsV RX11 341 RX2 yX2_push wsX2_push) := goodIn_app (goodIn_of _ (by decide +kernel)) ggX11_serve_X2_push
set_option maxRecDepth 20000 in
theorem ggX11_serve_X3_dishTaste : GoodIn wsX11_serve wsX3_dishTaste := goodIn_r _ [21, 10, 11, 22, 23, 24, 73, 74, 75, 76, 77, 78, 79, 80, 81, 82, 83, 84, 85, 86, 87, 88, 89, 90, 91, 92, 93, 94, 95, 96, 97, 98, 99, 100, 101, 102, 103, 104, 105, 106, 107, 108, 109, 110, 111, 112] rfl (by decide +kernel)
set_option maxRecDepth 20000 in
theorem gX11_serve_X3_dishTaste : GoodIn wsX11_serve (wsV RX11 152 RX3 yX3_dishTaste wsX3_dishTaste) := goodIn_app (goodIn_of _ (by decide +kernel)) ggX11_serve_X3_dishTaste
theorem dX11_serve_0 : decode cX11_serve 0 = .ok (.aload_n 0, 1) := by decide +kernel
theorem dX11_serve_1 : decode cX11_serve 1 = .ok (.getfield 67, 3) := by decide +kernel
theorem dX11_serve_4 : decode cX11_serve 4 = .ok (.invokevirtual 280, 3) := by decide +kernel
theorem dX11_serve_7 : decode cX11_serve 7 = .ok (.ifCond .eq 14, 3) := by decide +kernel
theorem dX11_serve_10 : decode cX11_serve 10 = .ok (.new 96, 3) := by decide +kernel
theorem dX11_serve_13 : decode cX11_serve 13 = .ok (.dup, 1) := by decide +kernel
theorem dX11_serve_14 : decode cX11_serve 14 = .ok (.ldc_w 374, 3) := by decide +kernel
theorem dX11_serve_17 : decode cX11_serve 17 = .ok (.invokespecial 100, 3) := by decide +kernel
theorem dX11_serve_20 : decode cX11_serve 20 = .ok (.athrow, 1) := by decide +kernel
theorem dX11_serve_21 : decode cX11_serve 21 = .ok (.aload_n 0, 1) := by decide +kernel
theorem dX11_serve_22 : decode cX11_serve 22 = .ok (.getfield 77, 3) := by decide +kernel
theorem dX11_serve_25 : decode cX11_serve 25 = .ok (.aload_n 0, 1) := by decide +kernel
theorem dX11_serve_26 : decode cX11_serve 26 = .ok (.getfield 67, 3) := by decide +kernel
theorem dX11_serve_29 : decode cX11_serve 29 = .ok (.getfield 139, 3) := by decide +kernel
theorem dX11_serve_32 : decode cX11_serve 32 = .ok (.invokevirtual 341, 3) := by decide +kernel
theorem dX11_serve_35 : decode cX11_serve 35 = .ok (.aload_n 0, 1) := by decide +kernel
theorem dX11_serve_36 : decode cX11_serve 36 = .ok (.getfield 67, 3) := by decide +kernel
theorem dX11_serve_39 : decode cX11_serve 39 = .ok (.getfield 139, 3) := by decide +kernel
theorem dX11_serve_42 : decode cX11_serve 42 = .ok (.iconst 1, 1) := by decide +kernel
theorem dX11_serve_43 : decode cX11_serve 43 = .ok (.putfield 350, 3) := by decide +kernel
theorem dX11_serve_46 : decode cX11_serve 46 = .ok (.aload_n 0, 1) := by decide +kernel
theorem dX11_serve_47 : decode cX11_serve 47 = .ok (.getfield 67, 3) := by decide +kernel
theorem dX11_serve_50 : decode cX11_serve 50 = .ok (.invokevirtual 152, 3) := by decide +kernel
theorem dX11_serve_53 : decode cX11_serve 53 = .ok (.ireturn, 1) := by decide +kernel
set_option maxRecDepth 20000 in
theorem ggX11_requireStep_X11_isWithin : GoodIn wsX11_requireStep wsX11_isWithin := goodIn_r _ [7] rfl (by decide +kernel)
set_option maxRecDepth 20000 in
theorem gX11_requireStep_X11_isWithin : GoodIn wsX11_requireStep (va_wsS RX11 105 yX11_isWithin wsX11_isWithin) := goodIn_app (goodIn_of _ (by decide +kernel)) ggX11_requireStep_X11_isWithin
theorem dX11_requireStep_0 : decode cX11_requireStep 0 = .ok (.iload_n 1, 1) := by decide +kernel
theorem dX11_requireStep_1 : decode cX11_requireStep 1 = .ok (.iconst 0, 1) := by decide +kernel
theorem dX11_requireStep_2 : decode cX11_requireStep 2 = .ok (.aload_n 0, 1) := by decide +kernel
theorem dX11_requireStep_3 : decode cX11_requireStep 3 = .ok (.getfield 67, 3) := by decide +kernel
theorem dX11_requireStep_6 : decode cX11_requireStep 6 = .ok (.getfield 117, 3) := by decide +kernel
theorem dX11_requireStep_9 : decode cX11_requireStep 9 = .ok (.getfield 126, 3) := by decide +kernel
theorem dX11_requireStep_12 : decode cX11_requireStep 12 = .ok (.getfield 130, 3) := by decide +kernel
theorem dX11_requireStep_15 : decode cX11_requireStep 15 = .ok (.iconst 1, 1) := by decide +kernel
theorem dX11_requireStep_16 : decode cX11_requireStep 16 = .ok (.isub, 1) := by decide +kernel
theorem dX11_requireStep_17 : decode cX11_requireStep 17 = .ok (.invokestatic 105, 3) := by decide +kernel
theorem dX11_requireStep_20 : decode cX11_requireStep 20 = .ok (.ifCond .ne 14, 3) := by decide +kernel
theorem dX11_requireStep_23 : decode cX11_requireStep 23 = .ok (.new 237, 3) := by decide +kernel
theorem dX11_requireStep_26 : decode cX11_requireStep 26 = .ok (.dup, 1) := by decide +kernel
theorem dX11_requireStep_27 : decode cX11_requireStep 27 = .ok (.ldc_w 426, 3) := by decide +kernel
theorem dX11_requireStep_30 : decode cX11_requireStep 30 = .ok (.invokespecial 241, 3) := by decide +kernel
theorem dX11_requireStep_33 : decode cX11_requireStep 33 = .ok (.athrow, 1) := by decide +kernel
theorem dX11_requireStep_34 : decode cX11_requireStep 34 = .ok (.return_, 1) := by decide +kernel
set_option maxRecDepth 20000 in
theorem ggX11_requirePan_X11_isWithin : GoodIn wsX11_requirePan wsX11_isWithin := goodIn_r _ [7] rfl (by decide +kernel)
set_option maxRecDepth 20000 in
theorem gX11_requirePan_X11_isWithin : GoodIn wsX11_requirePan (va_wsS RX11 105 yX11_isWithin wsX11_isWithin) := goodIn_app (goodIn_of _ (by decide +kernel)) ggX11_requirePan_X11_isWithin
theorem dX11_requirePan_0 : decode cX11_requirePan 0 = .ok (.iload_n 1, 1) := by decide +kernel
theorem dX11_requirePan_1 : decode cX11_requirePan 1 = .ok (.iconst 0, 1) := by decide +kernel
theorem dX11_requirePan_2 : decode cX11_requirePan 2 = .ok (.aload_n 0, 1) := by decide +kernel
theorem dX11_requirePan_3 : decode cX11_requirePan 3 = .ok (.getfield 67, 3) := by decide +kernel
theorem dX11_requirePan_6 : decode cX11_requirePan 6 = .ok (.getfield 117, 3) := by decide +kernel
theorem dX11_requirePan_9 : decode cX11_requirePan 9 = .ok (.getfield 428, 3) := by decide +kernel
theorem dX11_requirePan_12 : decode cX11_requirePan 12 = .ok (.getfield 130, 3) := by decide +kernel
theorem dX11_requirePan_15 : decode cX11_requirePan 15 = .ok (.iconst 1, 1) := by decide +kernel
theorem dX11_requirePan_16 : decode cX11_requirePan 16 = .ok (.isub, 1) := by decide +kernel
theorem dX11_requirePan_17 : decode cX11_requirePan 17 = .ok (.invokestatic 105, 3) := by decide +kernel
theorem dX11_requirePan_20 : decode cX11_requirePan 20 = .ok (.ifCond .ne 14, 3) := by decide +kernel
theorem dX11_requirePan_23 : decode cX11_requirePan 23 = .ok (.new 237, 3) := by decide +kernel
theorem dX11_requirePan_26 : decode cX11_requirePan 26 = .ok (.dup, 1) := by decide +kernel
theorem dX11_requirePan_27 : decode cX11_requirePan 27 = .ok (.ldc_w 431, 3) := by decide +kernel
theorem dX11_requirePan_30 : decode cX11_requirePan 30 = .ok (.invokespecial 241, 3) := by decide +kernel
theorem dX11_requirePan_33 : decode cX11_requirePan 33 = .ok (.athrow, 1) := by decide +kernel
theorem dX11_requirePan_34 : decode cX11_requirePan 34 = .ok (.return_, 1) := by decide +kernel
set_option maxRecDepth 20000 in
theorem ggX11_requireCooks_X11_isCookCount : GoodIn wsX11_requireCooks wsX11_isCookCount := goodIn_r _ [7, 8, 9, 6, 10] rfl (by decide +kernel)
set_option maxRecDepth 20000 in
theorem gX11_requireCooks_X11_isCookCount : GoodIn wsX11_requireCooks (wsV RX11 435 RX11 yX11_isCookCount wsX11_isCookCount) := goodIn_app (goodIn_of _ (by decide +kernel)) ggX11_requireCooks_X11_isCookCount
theorem dX11_requireCooks_0 : decode cX11_requireCooks 0 = .ok (.aload_n 0, 1) := by decide +kernel
theorem dX11_requireCooks_1 : decode cX11_requireCooks 1 = .ok (.iload_n 1, 1) := by decide +kernel
theorem dX11_requireCooks_2 : decode cX11_requireCooks 2 = .ok (.invokevirtual 435, 3) := by decide +kernel
theorem dX11_requireCooks_5 : decode cX11_requireCooks 5 = .ok (.ifCond .ne 14, 3) := by decide +kernel
theorem dX11_requireCooks_8 : decode cX11_requireCooks 8 = .ok (.new 109, 3) := by decide +kernel
theorem dX11_requireCooks_11 : decode cX11_requireCooks 11 = .ok (.dup, 1) := by decide +kernel
theorem dX11_requireCooks_12 : decode cX11_requireCooks 12 = .ok (.ldc_w 438, 3) := by decide +kernel
theorem dX11_requireCooks_15 : decode cX11_requireCooks 15 = .ok (.invokespecial 113, 3) := by decide +kernel
theorem dX11_requireCooks_18 : decode cX11_requireCooks 18 = .ok (.athrow, 1) := by decide +kernel
theorem dX11_requireCooks_19 : decode cX11_requireCooks 19 = .ok (.return_, 1) := by decide +kernel
theorem dX11_requireNoError_0 : decode cX11_requireNoError 0 = .ok (.aload_n 0, 1) := by decide +kernel
theorem dX11_requireNoError_1 : decode cX11_requireNoError 1 = .ok (.getfield 48, 3) := by decide +kernel
theorem dX11_requireNoError_4 : decode cX11_requireNoError 4 = .ok (.getfield 133, 3) := by decide +kernel
theorem dX11_requireNoError_7 : decode cX11_requireNoError 7 = .ok (.ifCond .eq 14, 3) := by decide +kernel
theorem dX11_requireNoError_10 : decode cX11_requireNoError 10 = .ok (.new 109, 3) := by decide +kernel
theorem dX11_requireNoError_13 : decode cX11_requireNoError 13 = .ok (.dup, 1) := by decide +kernel
theorem dX11_requireNoError_14 : decode cX11_requireNoError 14 = .ok (.ldc_w 440, 3) := by decide +kernel
theorem dX11_requireNoError_17 : decode cX11_requireNoError 17 = .ok (.invokespecial 113, 3) := by decide +kernel
theorem dX11_requireNoError_20 : decode cX11_requireNoError 20 = .ok (.athrow, 1) := by decide +kernel
theorem dX11_requireNoError_21 : decode cX11_requireNoError 21 = .ok (.return_, 1) := by decide +kernel
set_option maxRecDepth 20000 in
theorem ggX11_isPassLength_X11_isWithin : GoodIn wsX11_isPassLength wsX11_isWithin := goodIn_r _ [4] rfl (by decide +kernel)
set_option maxRecDepth 20000 in
theorem gX11_isPassLength_X11_isWithin : GoodIn wsX11_isPassLength (va_wsS RX11 105 yX11_isWithin wsX11_isWithin) := goodIn_app (goodIn_of _ (by decide +kernel)) ggX11_isPassLength_X11_isWithin
theorem dX11_isPassLength_0 : decode cX11_isPassLength 0 = .ok (.iload_n 1, 1) := by decide +kernel
theorem dX11_isPassLength_1 : decode cX11_isPassLength 1 = .ok (.iconst 1, 1) := by decide +kernel
theorem dX11_isPassLength_2 : decode cX11_isPassLength 2 = .ok (.sipush 200, 3) := by decide +kernel
theorem dX11_isPassLength_5 : decode cX11_isPassLength 5 = .ok (.invokestatic 105, 3) := by decide +kernel
theorem dX11_isPassLength_8 : decode cX11_isPassLength 8 = .ok (.ireturn, 1) := by decide +kernel
theorem dX11_fitsClock_0 : decode cX11_fitsClock 0 = .ok (.aload_n 0, 1) := by decide +kernel
theorem dX11_fitsClock_1 : decode cX11_fitsClock 1 = .ok (.getfield 67, 3) := by decide +kernel
theorem dX11_fitsClock_4 : decode cX11_fitsClock 4 = .ok (.getfield 139, 3) := by decide +kernel
theorem dX11_fitsClock_7 : decode cX11_fitsClock 7 = .ok (.getfield 146, 3) := by decide +kernel
theorem dX11_fitsClock_10 : decode cX11_fitsClock 10 = .ok (.iload_n 1, 1) := by decide +kernel
theorem dX11_fitsClock_11 : decode cX11_fitsClock 11 = .ok (.iadd, 1) := by decide +kernel
theorem dX11_fitsClock_12 : decode cX11_fitsClock 12 = .ok (.sipush 9999, 3) := by decide +kernel
theorem dX11_fitsClock_15 : decode cX11_fitsClock 15 = .ok (.if_icmp .gt 7, 3) := by decide +kernel
theorem dX11_fitsClock_18 : decode cX11_fitsClock 18 = .ok (.iconst 1, 1) := by decide +kernel
theorem dX11_fitsClock_19 : decode cX11_fitsClock 19 = .ok (.goto 4, 3) := by decide +kernel
theorem dX11_fitsClock_22 : decode cX11_fitsClock 22 = .ok (.iconst 0, 1) := by decide +kernel
theorem dX11_fitsClock_23 : decode cX11_fitsClock 23 = .ok (.ireturn, 1) := by decide +kernel
set_option maxRecDepth 20000 in
theorem ggX11_isSaltAmount_X11_isWithin : GoodIn wsX11_isSaltAmount wsX11_isWithin := goodIn_r _ [4] rfl (by decide +kernel)
set_option maxRecDepth 20000 in
theorem gX11_isSaltAmount_X11_isWithin : GoodIn wsX11_isSaltAmount (va_wsS RX11 105 yX11_isWithin wsX11_isWithin) := goodIn_app (goodIn_of _ (by decide +kernel)) ggX11_isSaltAmount_X11_isWithin
theorem dX11_isSaltAmount_0 : decode cX11_isSaltAmount 0 = .ok (.iload_n 1, 1) := by decide +kernel
theorem dX11_isSaltAmount_1 : decode cX11_isSaltAmount 1 = .ok (.ifCond .eq 18, 3) := by decide +kernel
theorem dX11_isSaltAmount_4 : decode cX11_isSaltAmount 4 = .ok (.iload_n 1, 1) := by decide +kernel
theorem dX11_isSaltAmount_5 : decode cX11_isSaltAmount 5 = .ok (.bipush (-9), 2) := by decide +kernel
theorem dX11_isSaltAmount_7 : decode cX11_isSaltAmount 7 = .ok (.bipush 9, 2) := by decide +kernel
theorem dX11_isSaltAmount_9 : decode cX11_isSaltAmount 9 = .ok (.invokestatic 105, 3) := by decide +kernel
theorem dX11_isSaltAmount_12 : decode cX11_isSaltAmount 12 = .ok (.ifCond .eq 7, 3) := by decide +kernel
theorem dX11_isSaltAmount_15 : decode cX11_isSaltAmount 15 = .ok (.iconst 1, 1) := by decide +kernel
theorem dX11_isSaltAmount_16 : decode cX11_isSaltAmount 16 = .ok (.goto 4, 3) := by decide +kernel
theorem dX11_isSaltAmount_19 : decode cX11_isSaltAmount 19 = .ok (.iconst 0, 1) := by decide +kernel
theorem dX11_isSaltAmount_20 : decode cX11_isSaltAmount 20 = .ok (.ireturn, 1) := by decide +kernel
set_option maxRecDepth 20000 in
theorem ggX11_isCookCount_X11_isWithin : GoodIn wsX11_isCookCount wsX11_isWithin := goodIn_r _ [4] rfl (by decide +kernel)
set_option maxRecDepth 20000 in
theorem gX11_isCookCount_X11_isWithin : GoodIn wsX11_isCookCount (va_wsS RX11 105 yX11_isWithin wsX11_isWithin) := goodIn_app (goodIn_of _ (by decide +kernel)) ggX11_isCookCount_X11_isWithin
theorem dX11_isCookCount_0 : decode cX11_isCookCount 0 = .ok (.iload_n 1, 1) := by decide +kernel
theorem dX11_isCookCount_1 : decode cX11_isCookCount 1 = .ok (.iconst 1, 1) := by decide +kernel
theorem dX11_isCookCount_2 : decode cX11_isCookCount 2 = .ok (.iconst 4, 1) := by decide +kernel
theorem dX11_isCookCount_3 : decode cX11_isCookCount 3 = .ok (.invokestatic 105, 3) := by decide +kernel
theorem dX11_isCookCount_6 : decode cX11_isCookCount 6 = .ok (.ireturn, 1) := by decide +kernel
set_option maxRecDepth 20000 in
theorem ggX11_isDuration_X11_isWithin : GoodIn wsX11_isDuration wsX11_isWithin := goodIn_r _ [4] rfl (by decide +kernel)
set_option maxRecDepth 20000 in
theorem gX11_isDuration_X11_isWithin : GoodIn wsX11_isDuration (va_wsS RX11 105 yX11_isWithin wsX11_isWithin) := goodIn_app (goodIn_of _ (by decide +kernel)) ggX11_isDuration_X11_isWithin
theorem dX11_isDuration_0 : decode cX11_isDuration 0 = .ok (.iload_n 1, 1) := by decide +kernel
theorem dX11_isDuration_1 : decode cX11_isDuration 1 = .ok (.iconst 1, 1) := by decide +kernel
theorem dX11_isDuration_2 : decode cX11_isDuration 2 = .ok (.bipush 60, 2) := by decide +kernel
theorem dX11_isDuration_4 : decode cX11_isDuration 4 = .ok (.invokestatic 105, 3) := by decide +kernel
theorem dX11_isDuration_7 : decode cX11_isDuration 7 = .ok (.ireturn, 1) := by decide +kernel
theorem dX11_isWithin_0 : decode cX11_isWithin 0 = .ok (.iload_n 1, 1) := by decide +kernel
theorem dX11_isWithin_1 : decode cX11_isWithin 1 = .ok (.iload_n 0, 1) := by decide +kernel
theorem dX11_isWithin_2 : decode cX11_isWithin 2 = .ok (.if_icmp .gt 12, 3) := by decide +kernel
theorem dX11_isWithin_5 : decode cX11_isWithin 5 = .ok (.iload_n 0, 1) := by decide +kernel
theorem dX11_isWithin_6 : decode cX11_isWithin 6 = .ok (.iload_n 2, 1) := by decide +kernel
theorem dX11_isWithin_7 : decode cX11_isWithin 7 = .ok (.if_icmp .gt 7, 3) := by decide +kernel
theorem dX11_isWithin_10 : decode cX11_isWithin 10 = .ok (.iconst 1, 1) := by decide +kernel
theorem dX11_isWithin_11 : decode cX11_isWithin 11 = .ok (.goto 4, 3) := by decide +kernel
theorem dX11_isWithin_14 : decode cX11_isWithin 14 = .ok (.iconst 0, 1) := by decide +kernel
theorem dX11_isWithin_15 : decode cX11_isWithin 15 = .ok (.ireturn, 1) := by decide +kernel
theorem dX11_contains_0 : decode cX11_contains 0 = .ok (.iload_n 0, 1) := by decide +kernel
theorem dX11_contains_1 : decode cX11_contains 1 = .ok (.iload_n 1, 1) := by decide +kernel
theorem dX11_contains_2 : decode cX11_contains 2 = .ok (.ishr, 1) := by decide +kernel
theorem dX11_contains_3 : decode cX11_contains 3 = .ok (.iconst 1, 1) := by decide +kernel
theorem dX11_contains_4 : decode cX11_contains 4 = .ok (.iand, 1) := by decide +kernel
theorem dX11_contains_5 : decode cX11_contains 5 = .ok (.ifCond .eq 7, 3) := by decide +kernel
theorem dX11_contains_8 : decode cX11_contains 8 = .ok (.iconst 1, 1) := by decide +kernel
theorem dX11_contains_9 : decode cX11_contains 9 = .ok (.goto 4, 3) := by decide +kernel
theorem dX11_contains_12 : decode cX11_contains 12 = .ok (.iconst 0, 1) := by decide +kernel
theorem dX11_contains_13 : decode cX11_contains 13 = .ok (.ireturn, 1) := by decide +kernel
theorem dX11_sum_0 : decode cX11_sum 0 = .ok (.iconst 0, 1) := by decide +kernel
theorem dX11_sum_1 : decode cX11_sum 1 = .ok (.istore_n 2, 1) := by decide +kernel
theorem dX11_sum_2 : decode cX11_sum 2 = .ok (.iconst 0, 1) := by decide +kernel
theorem dX11_sum_3 : decode cX11_sum 3 = .ok (.istore_n 3, 1) := by decide +kernel
theorem dX11_sum_4 : decode cX11_sum 4 = .ok (.iload_n 3, 1) := by decide +kernel
theorem dX11_sum_5 : decode cX11_sum 5 = .ok (.iload_n 1, 1) := by decide +kernel
theorem dX11_sum_6 : decode cX11_sum 6 = .ok (.if_icmp .ge 21, 3) := by decide +kernel
theorem dX11_sum_9 : decode cX11_sum 9 = .ok (.iload_n 3, 1) := by decide +kernel
theorem dX11_sum_10 : decode cX11_sum 10 = .ok (.aload_n 0, 1) := by decide +kernel
theorem dX11_sum_11 : decode cX11_sum 11 = .ok (.arraylength, 1) := by decide +kernel
theorem dX11_sum_12 : decode cX11_sum 12 = .ok (.if_icmp .ge 15, 3) := by decide +kernel
theorem dX11_sum_15 : decode cX11_sum 15 = .ok (.iload_n 2, 1) := by decide +kernel
theorem dX11_sum_16 : decode cX11_sum 16 = .ok (.aload_n 0, 1) := by decide +kernel
theorem dX11_sum_17 : decode cX11_sum 17 = .ok (.iload_n 3, 1) := by decide +kernel
theorem dX11_sum_18 : decode cX11_sum 18 = .ok (.iaload, 1) := by decide +kernel
theorem dX11_sum_19 : decode cX11_sum 19 = .ok (.iadd, 1) := by decide +kernel
theorem dX11_sum_20 : decode cX11_sum 20 = .ok (.istore_n 2, 1) := by decide +kernel
theorem dX11_sum_21 : decode cX11_sum 21 = .ok (.iinc 3 1, 3) := by decide +kernel
theorem dX11_sum_24 : decode cX11_sum 24 = .ok (.goto (-20), 3) := by decide +kernel
theorem dX11_sum_27 : decode cX11_sum 27 = .ok (.iload_n 2, 1) := by decide +kernel
theorem dX11_sum_28 : decode cX11_sum 28 = .ok (.ireturn, 1) := by decide +kernel
set_option maxRecDepth 20000 in
theorem ggX12_init_X11_stepCount : GoodIn wsX12_init wsX11_stepCount := goodIn_r _ [16, 17, 30, 31, 32, 33, 34, 35, 36, 37, 38, 39, 40, 41, 42, 43, 44, 45, 46, 47, 48, 49, 50, 51, 52, 53, 54, 55, 56, 57, 58, 59, 60, 61, 62, 63, 64, 65] rfl (by decide +kernel)
set_option maxRecDepth 20000 in
theorem gX12_init_X11_stepCount : GoodIn wsX12_init (wsV RX12 30 RX11 yX11_stepCount wsX11_stepCount) := goodIn_app (goodIn_of _ (by decide +kernel)) ggX12_init_X11_stepCount
theorem dX12_init_0 : decode cX12_init 0 = .ok (.aload_n 0, 1) := by decide +kernel
theorem dX12_init_1 : decode cX12_init 1 = .ok (.invokespecial 1, 3) := by decide +kernel
theorem dX12_init_4 : decode cX12_init 4 = .ok (.aload_n 0, 1) := by decide +kernel
theorem dX12_init_5 : decode cX12_init 5 = .ok (.bipush 14, 2) := by decide +kernel
theorem dX12_init_7 : decode cX12_init 7 = .ok (.newarray .int, 2) := by decide +kernel
theorem dX12_init_9 : decode cX12_init 9 = .ok (.putfield 7, 3) := by decide +kernel
theorem dX12_init_12 : decode cX12_init 12 = .ok (.aload_n 0, 1) := by decide +kernel
theorem dX12_init_13 : decode cX12_init 13 = .ok (.bipush 14, 2) := by decide +kernel
theorem dX12_init_15 : decode cX12_init 15 = .ok (.newarray .int, 2) := by decide +kernel
theorem dX12_init_17 : decode cX12_init 17 = .ok (.putfield 13, 3) := by decide +kernel
theorem dX12_init_20 : decode cX12_init 20 = .ok (.aload_n 0, 1) := by decide +kernel
theorem dX12_init_21 : decode cX12_init 21 = .ok (.bipush 14, 2) := by decide +kernel
theorem dX12_init_23 : decode cX12_init 23 = .ok (.newarray .int, 2) := by decide +kernel
theorem dX12_init_25 : decode cX12_init 25 = .ok (.putfield 16, 3) := by decide +kernel
theorem dX12_init_28 : decode cX12_init 28 = .ok (.aload_n 0, 1) := by decide +kernel
theorem dX12_init_29 : decode cX12_init 29 = .ok (.bipush 14, 2) := by decide +kernel
theorem dX12_init_31 : decode cX12_init 31 = .ok (.newarray .int, 2) := by decide +kernel
theorem dX12_init_33 : decode cX12_init 33 = .ok (.putfield 19, 3) := by decide +kernel
theorem dX12_init_36 : decode cX12_init 36 = .ok (.aload_n 0, 1) := by decide +kernel
theorem dX12_init_37 : decode cX12_init 37 = .ok (.aload_n 1, 1) := by decide +kernel
theorem dX12_init_38 : decode cX12_init 38 = .ok (.putfield 22, 3) := by decide +kernel
theorem dX12_init_41 : decode cX12_init 41 = .ok (.aload_n 0, 1) := by decide +kernel
theorem dX12_init_42 : decode cX12_init 42 = .ok (.iload_n 2, 1) := by decide +kernel
theorem dX12_init_43 : decode cX12_init 43 = .ok (.putfield 26, 3) := by decide +kernel
theorem dX12_init_46 : decode cX12_init 46 = .ok (.aload_n 0, 1) := by decide +kernel
theorem dX12_init_47 : decode cX12_init 47 = .ok (.aload_n 1, 1) := by decide +kernel
theorem dX12_init_48 : decode cX12_init 48 = .ok (.invokevirtual 30, 3) := by decide +kernel
theorem dX12_init_51 : decode cX12_init 51 = .ok (.putfield 36, 3) := by decide +kernel
theorem dX12_init_54 : decode cX12_init 54 = .ok (.return_, 1) := by decide +kernel
set_option maxRecDepth 20000 in
theorem ggX12_read_X11_minute : GoodIn wsX12_read wsX11_minute := goodIn_r _ [16, 17, 93, 94, 95, 96, 97, 98, 99, 100, 101, 102, 103, 104, 105, 106, 107, 108, 109, 110, 111, 112, 113, 114, 115, 116, 117, 118, 119, 120, 121, 122, 123] rfl (by decide +kernel)
set_option maxRecDepth 20000 in
theorem gX12_read_X11_minute : GoodIn wsX12_read (wsV RX12 39 RX11 yX11_minute wsX11_minute) := goodIn_app (goodIn_of _ (by decide +kernel)) ggX12_read_X11_minute
set_option maxRecDepth 20000 in
theorem ggX12_read_X11_starts : GoodIn wsX12_read wsX11_starts := goodIn_r _ [21, 17, 22, 23, 15, 24, 93, 94, 95, 96, 97, 98, 99, 100, 101, 102, 103, 104, 105, 106, 107, 108, 109, 110, 111, 112, 113, 114, 115, 116, 117, 118, 119, 120, 121, 122, 123, 124, 125, 126, 127, 128, 129, 130, 131, 132, 133, 134, 135, 136, 137, 138, 139, 140, 141, 142, 143] rfl (by decide +kernel)
set_option maxRecDepth 20000 in
theorem gX12_read_X11_starts : GoodIn wsX12_read (wsV RX12 44 RX11 yX11_starts wsX11_starts) := goodIn_app (goodIn_of _ (by decide +kernel)) ggX12_read_X11_starts
set_option maxRecDepth 20000 in
theorem ggX12_read_X11_completions : GoodIn wsX12_read wsX11_completions := goodIn_r _ [28, 17, 22, 23, 15, 24, 93, 94, 95, 96, 97, 98, 99, 100, 101, 102, 103, 104, 105, 106, 107, 108, 109, 110, 111, 112, 113, 114, 115, 116, 117, 118, 119, 120, 121, 122, 123, 124, 125, 126, 127, 128, 129, 130, 131, 132, 133, 134, 135, 136, 137, 138, 139, 140, 141, 142, 143] rfl (by decide +kernel)
set_option maxRecDepth 20000 in
theorem gX12_read_X11_completions : GoodIn wsX12_read (wsV RX12 49 RX11 yX11_completions wsX11_completions) := goodIn_app (goodIn_of _ (by decide +kernel)) ggX12_read_X11_completions
set_option maxRecDepth 20000 in
theorem ggX12_read_X11_burns : GoodIn wsX12_read wsX11_burns := goodIn_r _ [32, 17, 22, 23, 15, 24, 93, 94, 95, 96, 97, 98, 99, 100, 101, 102, 103, 104, 105, 106, 107, 108, 109, 110, 111, 112, 113, 114, 115, 116, 117, 118, 119, 120, 121, 122, 123, 124, 125, 126, 127, 128, 129, 130, 131, 132, 133, 134, 135, 136, 137, 138, 139, 140, 141, 142, 143] rfl (by decide +kernel)
set_option maxRecDepth 20000 in
theorem gX12_read_X11_burns : GoodIn wsX12_read (wsV RX12 54 RX11 yX11_burns wsX11_burns) := goodIn_app (goodIn_of _ (by decide +kernel)) ggX12_read_X11_burns
set_option maxRecDepth 20000 in
theorem ggX12_read_X11_cookMinutes : GoodIn wsX12_read wsX11_cookMinutes := goodIn_r _ [36, 17, 93, 94, 95, 96, 97, 98, 99, 100, 101, 102, 103, 104, 105, 106, 107, 108, 109, 110, 111, 112, 113, 114, 115, 116, 117, 118, 119, 120, 121, 122, 123] rfl (by decide +kernel)
set_option maxRecDepth 20000 in
theorem gX12_read_X11_cookMinutes : GoodIn wsX12_read (wsV RX12 59 RX11 yX11_cookMinutes wsX11_cookMinutes) := goodIn_app (goodIn_of _ (by decide +kernel)) ggX12_read_X11_cookMinutes
set_option maxRecDepth 20000 in
theorem ggX12_read_X11_status : GoodIn wsX12_read wsX11_status := goodIn_ca (goodIn_r _ [40, 17, 41, 42, 43, 15, 44, 45, 46, 47, 48, 49, 50, 51, 52, 53, 54, 55, 56, 57, 58, 59, 93, 94, 95, 96, 97, 98, 99, 100, 101, 102, 103, 104, 105, 106, 107, 108, 124, 125, 126, 127, 128, 129, 130, 131, 132, 133, 134, 135, 136, 137, 138, 139, 140, 141, 142, 143, 109, 110, 111, 112, 113, 114, 115, 116, 117, 118, 119, 120, 121, 122, 123] rfl (by decide +kernel)) (goodIn_sub (fun _ h => List.mem_cons_of_mem _ (List.mem_append_right _ h)) (by decide +kernel))
set_option maxRecDepth 20000 in
theorem gX12_read_X11_status : GoodIn wsX12_read (wsV RX12 64 RX11 yX11_status wsX11_status) := goodIn_app (goodIn_of _ (by decide +kernel)) ggX12_read_X11_status
set_option maxRecDepth 20000 in
theorem ggX12_read_X11_remaining : GoodIn wsX12_read wsX11_remaining := goodIn_ca (goodIn_r _ [63, 17, 41, 42, 43, 15, 44, 45, 46, 47, 48, 49, 93, 94, 95, 96, 97, 98, 99, 100, 101, 102, 103, 104, 105, 106, 107, 108, 109, 110, 111, 112, 113, 114, 115, 116, 117, 118, 119, 120, 121, 122, 123, 124, 125, 126, 127, 128, 129, 130, 131, 132, 133, 134, 135, 136, 137, 138, 139, 140, 141, 142, 143] rfl (by decide +kernel)) (goodIn_sub (fun _ h => List.mem_cons_of_mem _ (List.mem_append_right _ h)) (by decide +kernel))
set_option maxRecDepth 20000 in
theorem gX12_read_X11_remaining : GoodIn wsX12_read (wsV RX12 67 RX11 yX11_remaining wsX11_remaining) := goodIn_app (goodIn_of _ (by decide +kernel)) ggX12_read_X11_remaining
set_option maxRecDepth 20000 in
theorem ggX12_read_X11_age : GoodIn wsX12_read wsX11_age := goodIn_ca (goodIn_r _ [67, 17, 41, 42, 43, 15, 44, 45, 46, 47, 48, 49, 93, 94, 95, 96, 97, 98, 99, 100, 101, 102, 103, 104, 105, 106, 107, 108, 109, 110, 111, 112, 113, 114, 115, 116, 117, 118, 119, 120, 121, 122, 123, 124, 125, 126, 127, 128, 129, 130, 131, 132, 133, 134, 135, 136, 137, 138, 139, 140, 141, 142, 143] rfl (by decide +kernel)) (goodIn_sub (fun _ h => List.mem_cons_of_mem _ (List.mem_append_right _ h)) (by decide +kernel))
set_option maxRecDepth 20000 in
theorem gX12_read_X11_age : GoodIn wsX12_read (wsV RX12 70 RX11 yX11_age wsX11_age) := goodIn_app (goodIn_of _ (by decide +kernel)) ggX12_read_X11_age
set_option maxRecDepth 20000 in
theorem ggX12_read_X12_isAfter : GoodIn wsX12_read wsX12_isAfter := goodIn_ca (goodIn_r _ [72, 1, 73, 74, 75, 15, 76, 17, 41, 42, 43, 44, 45, 46, 47, 48, 49, 81, 82, 83, 84, 85, 86, 87, 88, 89, 90, 91, 92, 93, 94, 95, 96, 97, 98, 99, 100, 101, 102, 103, 104, 105, 106, 107, 108, 124, 125, 126, 127, 128, 129, 130, 131, 132, 133, 134, 135, 136, 137, 138, 139, 140, 141, 142, 143] rfl (by decide +kernel)) (goodIn_sub (fun _ h => List.mem_cons_of_mem _ (List.mem_append_right _ h)) (by decide +kernel))
set_option maxRecDepth 20000 in
theorem gX12_read_X12_isAfter : GoodIn wsX12_read (wsV RX12 72 RX12 yX12_isAfter wsX12_isAfter) := goodIn_app (goodIn_of _ (by decide +kernel)) ggX12_read_X12_isAfter
set_option maxRecDepth 20000 in
theorem ggX12_read_X11_duration : GoodIn wsX12_read wsX11_duration := goodIn_ca (goodIn_r _ [80, 17, 41, 42, 43, 15, 44, 45, 46, 47, 48, 49, 93, 94, 95, 96, 97, 98, 99, 100, 101, 102, 103, 104, 105, 106, 107, 108, 109, 110, 111, 112, 113, 114, 115, 116, 117, 118, 119, 120, 121, 122, 123, 124, 125, 126, 127, 128, 129, 130, 131, 132, 133, 134, 135, 136, 137, 138, 139, 140, 141, 142, 143] rfl (by decide +kernel)) (goodIn_sub (fun _ h => List.mem_cons_of_mem _ (List.mem_append_right _ h)) (by decide +kernel))
set_option maxRecDepth 20000 in
theorem gX12_read_X11_duration : GoodIn wsX12_read (wsV RX12 76 RX11 yX11_duration wsX11_duration) := goodIn_app (goodIn_of _ (by decide +kernel)) ggX12_read_X11_duration
theorem dX12_read_0 : decode cX12_read 0 = .ok (.aload_n 0, 1) := by decide +kernel
theorem dX12_read_1 : decode cX12_read 1 = .ok (.aload_n 0, 1) := by decide +kernel
theorem dX12_read_2 : decode cX12_read 2 = .ok (.getfield 22, 3) := by decide +kernel
theorem dX12_read_5 : decode cX12_read 5 = .ok (.invokevirtual 39, 3) := by decide +kernel
theorem dX12_read_8 : decode cX12_read 8 = .ok (.putfield 42, 3) := by decide +kernel
theorem dX12_read_11 : decode cX12_read 11 = .ok (.aload_n 0, 1) := by decide +kernel
theorem dX12_read_12 : decode cX12_read 12 = .ok (.aload_n 0, 1) := by decide +kernel
theorem dX12_read_13 : decode cX12_read 13 = .ok (.getfield 22, 3) := by decide +kernel
theorem dX12_read_16 : decode cX12_read 16 = .ok (.invokevirtual 44, 3) := by decide +kernel
theorem dX12_read_19 : decode cX12_read 19 = .ok (.putfield 47, 3) := by decide +kernel
theorem dX12_read_22 : decode cX12_read 22 = .ok (.aload_n 0, 1) := by decide +kernel
theorem dX12_read_23 : decode cX12_read 23 = .ok (.aload_n 0, 1) := by decide +kernel
theorem dX12_read_24 : decode cX12_read 24 = .ok (.getfield 22, 3) := by decide +kernel
theorem dX12_read_27 : decode cX12_read 27 = .ok (.invokevirtual 49, 3) := by decide +kernel
theorem dX12_read_30 : decode cX12_read 30 = .ok (.putfield 52, 3) := by decide +kernel
theorem dX12_read_33 : decode cX12_read 33 = .ok (.aload_n 0, 1) := by decide +kernel
theorem dX12_read_34 : decode cX12_read 34 = .ok (.aload_n 0, 1) := by decide +kernel
theorem dX12_read_35 : decode cX12_read 35 = .ok (.getfield 22, 3) := by decide +kernel
theorem dX12_read_38 : decode cX12_read 38 = .ok (.invokevirtual 54, 3) := by decide +kernel
theorem dX12_read_41 : decode cX12_read 41 = .ok (.putfield 57, 3) := by decide +kernel
theorem dX12_read_44 : decode cX12_read 44 = .ok (.aload_n 0, 1) := by decide +kernel
theorem dX12_read_45 : decode cX12_read 45 = .ok (.aload_n 0, 1) := by decide +kernel
theorem dX12_read_46 : decode cX12_read 46 = .ok (.getfield 22, 3) := by decide +kernel
theorem dX12_read_49 : decode cX12_read 49 = .ok (.invokevirtual 59, 3) := by decide +kernel
theorem dX12_read_52 : decode cX12_read 52 = .ok (.putfield 62, 3) := by decide +kernel
theorem dX12_read_55 : decode cX12_read 55 = .ok (.iconst 0, 1) := by decide +kernel
theorem dX12_read_56 : decode cX12_read 56 = .ok (.istore_n 1, 1) := by decide +kernel
theorem dX12_read_57 : decode cX12_read 57 = .ok (.iload_n 1, 1) := by decide +kernel
theorem dX12_read_58 : decode cX12_read 58 = .ok (.aload_n 0, 1) := by decide +kernel
theorem dX12_read_59 : decode cX12_read 59 = .ok (.getfield 36, 3) := by decide +kernel
theorem dX12_read_62 : decode cX12_read 62 = .ok (.if_icmp .ge 51, 3) := by decide +kernel
theorem dX12_read_65 : decode cX12_read 65 = .ok (.aload_n 0, 1) := by decide +kernel
theorem dX12_read_66 : decode cX12_read 66 = .ok (.getfield 7, 3) := by decide +kernel
theorem dX12_read_69 : decode cX12_read 69 = .ok (.iload_n 1, 1) := by decide +kernel
theorem dX12_read_70 : decode cX12_read 70 = .ok (.aload_n 0, 1) := by decide +kernel
theorem dX12_read_71 : decode cX12_read 71 = .ok (.getfield 22, 3) := by decide +kernel
theorem dX12_read_74 : decode cX12_read 74 = .ok (.iload_n 1, 1) := by decide +kernel
theorem dX12_read_75 : decode cX12_read 75 = .ok (.invokevirtual 64, 3) := by decide +kernel
theorem dX12_read_78 : decode cX12_read 78 = .ok (.iastore, 1) := by decide +kernel
theorem dX12_read_79 : decode cX12_read 79 = .ok (.aload_n 0, 1) := by decide +kernel
theorem dX12_read_80 : decode cX12_read 80 = .ok (.getfield 13, 3) := by decide +kernel
theorem dX12_read_83 : decode cX12_read 83 = .ok (.iload_n 1, 1) := by decide +kernel
theorem dX12_read_84 : decode cX12_read 84 = .ok (.aload_n 0, 1) := by decide +kernel
theorem dX12_read_85 : decode cX12_read 85 = .ok (.getfield 22, 3) := by decide +kernel
theorem dX12_read_88 : decode cX12_read 88 = .ok (.iload_n 1, 1) := by decide +kernel
theorem dX12_read_89 : decode cX12_read 89 = .ok (.invokevirtual 67, 3) := by decide +kernel
theorem dX12_read_92 : decode cX12_read 92 = .ok (.iastore, 1) := by decide +kernel
theorem dX12_read_93 : decode cX12_read 93 = .ok (.aload_n 0, 1) := by decide +kernel
theorem dX12_read_94 : decode cX12_read 94 = .ok (.getfield 16, 3) := by decide +kernel
theorem dX12_read_97 : decode cX12_read 97 = .ok (.iload_n 1, 1) := by decide +kernel
theorem dX12_read_98 : decode cX12_read 98 = .ok (.aload_n 0, 1) := by decide +kernel
theorem dX12_read_99 : decode cX12_read 99 = .ok (.getfield 22, 3) := by decide +kernel
theorem dX12_read_102 : decode cX12_read 102 = .ok (.iload_n 1, 1) := by decide +kernel
theorem dX12_read_103 : decode cX12_read 103 = .ok (.invokevirtual 70, 3) := by decide +kernel
theorem dX12_read_106 : decode cX12_read 106 = .ok (.iastore, 1) := by decide +kernel
theorem dX12_read_107 : decode cX12_read 107 = .ok (.iinc 1 1, 3) := by decide +kernel
theorem dX12_read_110 : decode cX12_read 110 = .ok (.goto (-53), 3) := by decide +kernel
theorem dX12_read_113 : decode cX12_read 113 = .ok (.aload_n 0, 1) := by decide +kernel
theorem dX12_read_114 : decode cX12_read 114 = .ok (.getfield 36, 3) := by decide +kernel
theorem dX12_read_117 : decode cX12_read 117 = .ok (.iconst 1, 1) := by decide +kernel
theorem dX12_read_118 : decode cX12_read 118 = .ok (.isub, 1) := by decide +kernel
theorem dX12_read_119 : decode cX12_read 119 = .ok (.istore_n 1, 1) := by decide +kernel
theorem dX12_read_120 : decode cX12_read 120 = .ok (.iload_n 1, 1) := by decide +kernel
theorem dX12_read_121 : decode cX12_read 121 = .ok (.ifCond .lt 71, 3) := by decide +kernel
theorem dX12_read_124 : decode cX12_read 124 = .ok (.iconst 0, 1) := by decide +kernel
theorem dX12_read_125 : decode cX12_read 125 = .ok (.istore_n 2, 1) := by decide +kernel
theorem dX12_read_126 : decode cX12_read 126 = .ok (.iload_n 1, 1) := by decide +kernel
theorem dX12_read_127 : decode cX12_read 127 = .ok (.iconst 1, 1) := by decide +kernel
theorem dX12_read_128 : decode cX12_read 128 = .ok (.iadd, 1) := by decide +kernel
theorem dX12_read_129 : decode cX12_read 129 = .ok (.istore_n 3, 1) := by decide +kernel
theorem dX12_read_130 : decode cX12_read 130 = .ok (.iload_n 3, 1) := by decide +kernel
theorem dX12_read_131 : decode cX12_read 131 = .ok (.aload_n 0, 1) := by decide +kernel
theorem dX12_read_132 : decode cX12_read 132 = .ok (.getfield 36, 3) := by decide +kernel
theorem dX12_read_135 : decode cX12_read 135 = .ok (.if_icmp .ge 35, 3) := by decide +kernel
theorem dX12_read_138 : decode cX12_read 138 = .ok (.aload_n 0, 1) := by decide +kernel
theorem dX12_read_139 : decode cX12_read 139 = .ok (.iload_n 3, 1) := by decide +kernel
theorem dX12_read_140 : decode cX12_read 140 = .ok (.iload_n 1, 1) := by decide +kernel
theorem dX12_read_141 : decode cX12_read 141 = .ok (.invokevirtual 72, 3) := by decide +kernel
theorem dX12_read_144 : decode cX12_read 144 = .ok (.ifCond .eq 20, 3) := by decide +kernel
theorem dX12_read_147 : decode cX12_read 147 = .ok (.aload_n 0, 1) := by decide +kernel
theorem dX12_read_148 : decode cX12_read 148 = .ok (.getfield 19, 3) := by decide +kernel
theorem dX12_read_151 : decode cX12_read 151 = .ok (.iload_n 3, 1) := by decide +kernel
theorem dX12_read_152 : decode cX12_read 152 = .ok (.iaload, 1) := by decide +kernel
theorem dX12_read_153 : decode cX12_read 153 = .ok (.iload_n 2, 1) := by decide +kernel
theorem dX12_read_154 : decode cX12_read 154 = .ok (.if_icmp .le 10, 3) := by decide +kernel
theorem dX12_read_157 : decode cX12_read 157 = .ok (.aload_n 0, 1) := by decide +kernel
theorem dX12_read_158 : decode cX12_read 158 = .ok (.getfield 19, 3) := by decide +kernel
theorem dX12_read_161 : decode cX12_read 161 = .ok (.iload_n 3, 1) := by decide +kernel
theorem dX12_read_162 : decode cX12_read 162 = .ok (.iaload, 1) := by decide +kernel
theorem dX12_read_163 : decode cX12_read 163 = .ok (.istore_n 2, 1) := by decide +kernel
theorem dX12_read_164 : decode cX12_read 164 = .ok (.iinc 3 1, 3) := by decide +kernel
theorem dX12_read_167 : decode cX12_read 167 = .ok (.goto (-37), 3) := by decide +kernel
theorem dX12_read_170 : decode cX12_read 170 = .ok (.aload_n 0, 1) := by decide +kernel
theorem dX12_read_171 : decode cX12_read 171 = .ok (.getfield 19, 3) := by decide +kernel
theorem dX12_read_174 : decode cX12_read 174 = .ok (.iload_n 1, 1) := by decide +kernel
theorem dX12_read_175 : decode cX12_read 175 = .ok (.aload_n 0, 1) := by decide +kernel
theorem dX12_read_176 : decode cX12_read 176 = .ok (.getfield 22, 3) := by decide +kernel
theorem dX12_read_179 : decode cX12_read 179 = .ok (.iload_n 1, 1) := by decide +kernel
theorem dX12_read_180 : decode cX12_read 180 = .ok (.invokevirtual 76, 3) := by decide +kernel
theorem dX12_read_183 : decode cX12_read 183 = .ok (.iload_n 2, 1) := by decide +kernel
theorem dX12_read_184 : decode cX12_read 184 = .ok (.iadd, 1) := by decide +kernel
theorem dX12_read_185 : decode cX12_read 185 = .ok (.iastore, 1) := by decide +kernel
theorem dX12_read_186 : decode cX12_read 186 = .ok (.iinc 1 (-1), 3) := by decide +kernel
theorem dX12_read_189 : decode cX12_read 189 = .ok (.goto (-69), 3) := by decide +kernel
theorem dX12_read_192 : decode cX12_read 192 = .ok (.return_, 1) := by decide +kernel
set_option maxRecDepth 20000 in
theorem ggX12_isAfter_X11_predecessor : GoodIn wsX12_isAfter wsX11_predecessor := goodIn_ca (goodIn_r _ [6, 7, 8, 9, 10, 5, 11, 12, 13, 14, 15, 16, 29, 30, 31, 32, 33, 34, 35, 36, 37, 38, 39, 40, 41, 42, 43, 44, 45, 46, 47, 48, 49, 50, 51, 52, 53, 54, 55, 56, 57, 58, 59, 60, 61, 62, 63, 64] rfl (by decide +kernel)) (goodIn_sub (fun _ h => List.mem_cons_of_mem _ (List.mem_append_right _ h)) (by decide +kernel))
set_option maxRecDepth 20000 in
theorem gX12_isAfter_X11_predecessor : GoodIn wsX12_isAfter (wsV RX12 79 RX11 yX11_predecessor wsX11_predecessor) := goodIn_app (goodIn_of _ (by decide +kernel)) ggX12_isAfter_X11_predecessor
theorem dX12_isAfter_0 : decode cX12_isAfter 0 = .ok (.iconst 0, 1) := by decide +kernel
theorem dX12_isAfter_1 : decode cX12_isAfter 1 = .ok (.istore_n 3, 1) := by decide +kernel
theorem dX12_isAfter_2 : decode cX12_isAfter 2 = .ok (.iconst 0, 1) := by decide +kernel
theorem dX12_isAfter_3 : decode cX12_isAfter 3 = .ok (.istore 4, 2) := by decide +kernel
theorem dX12_isAfter_5 : decode cX12_isAfter 5 = .ok (.iload 4, 2) := by decide +kernel
theorem dX12_isAfter_7 : decode cX12_isAfter 7 = .ok (.iconst 4, 1) := by decide +kernel
theorem dX12_isAfter_8 : decode cX12_isAfter 8 = .ok (.if_icmp .ge 33, 3) := by decide +kernel
theorem dX12_isAfter_11 : decode cX12_isAfter 11 = .ok (.iload_n 3, 1) := by decide +kernel
theorem dX12_isAfter_12 : decode cX12_isAfter 12 = .ok (.ifCond .ne 17, 3) := by decide +kernel
theorem dX12_isAfter_15 : decode cX12_isAfter 15 = .ok (.aload_n 0, 1) := by decide +kernel
theorem dX12_isAfter_16 : decode cX12_isAfter 16 = .ok (.getfield 22, 3) := by decide +kernel
theorem dX12_isAfter_19 : decode cX12_isAfter 19 = .ok (.iload_n 1, 1) := by decide +kernel
theorem dX12_isAfter_20 : decode cX12_isAfter 20 = .ok (.iload 4, 2) := by decide +kernel
theorem dX12_isAfter_22 : decode cX12_isAfter 22 = .ok (.invokevirtual 79, 3) := by decide +kernel
theorem dX12_isAfter_25 : decode cX12_isAfter 25 = .ok (.iload_n 2, 1) := by decide +kernel
theorem dX12_isAfter_26 : decode cX12_isAfter 26 = .ok (.if_icmp .ne 7, 3) := by decide +kernel
theorem dX12_isAfter_29 : decode cX12_isAfter 29 = .ok (.iconst 1, 1) := by decide +kernel
theorem dX12_isAfter_30 : decode cX12_isAfter 30 = .ok (.goto 4, 3) := by decide +kernel
theorem dX12_isAfter_33 : decode cX12_isAfter 33 = .ok (.iconst 0, 1) := by decide +kernel
theorem dX12_isAfter_34 : decode cX12_isAfter 34 = .ok (.istore_n 3, 1) := by decide +kernel
theorem dX12_isAfter_35 : decode cX12_isAfter 35 = .ok (.iinc 4 1, 3) := by decide +kernel
theorem dX12_isAfter_38 : decode cX12_isAfter 38 = .ok (.goto (-33), 3) := by decide +kernel
theorem dX12_isAfter_41 : decode cX12_isAfter 41 = .ok (.iload_n 3, 1) := by decide +kernel
theorem dX12_isAfter_42 : decode cX12_isAfter 42 = .ok (.ireturn, 1) := by decide +kernel
set_option maxRecDepth 20000 in
theorem ggX12_follows_X12_isAfter : GoodIn wsX12_follows wsX12_isAfter := goodIn_ca (goodIn_r _ [7, 8, 9, 10, 11, 12, 13, 14, 15, 16, 17, 18, 19, 20, 21, 22, 23, 24, 25, 26, 27, 28, 29, 30, 31, 32, 33, 34, 35, 36, 37, 38, 39, 40, 41, 42, 43, 44, 45, 46, 47, 48, 49, 50, 51, 52, 53, 54, 55, 56, 57, 58, 59, 60, 61, 62, 63, 64, 65, 66, 67, 68, 69, 70, 71] rfl (by decide +kernel)) (goodIn_sub (fun _ h => List.mem_cons_of_mem _ (List.mem_append_right _ h)) (by decide +kernel))
set_option maxRecDepth 20000 in
theorem gX12_follows_X12_isAfter : GoodIn wsX12_follows (wsV RX12 72 RX12 yX12_isAfter wsX12_isAfter) := goodIn_app (goodIn_of _ (by decide +kernel)) ggX12_follows_X12_isAfter
theorem dX12_follows_0 : decode cX12_follows 0 = .ok (.iconst 0, 1) := by decide +kernel
theorem dX12_follows_1 : decode cX12_follows 1 = .ok (.istore 4, 2) := by decide +kernel
theorem dX12_follows_3 : decode cX12_follows 3 = .ok (.iload_n 1, 1) := by decide +kernel
theorem dX12_follows_4 : decode cX12_follows 4 = .ok (.iconst 1, 1) := by decide +kernel
theorem dX12_follows_5 : decode cX12_follows 5 = .ok (.iadd, 1) := by decide +kernel
theorem dX12_follows_6 : decode cX12_follows 6 = .ok (.istore 5, 2) := by decide +kernel
theorem dX12_follows_8 : decode cX12_follows 8 = .ok (.iload 5, 2) := by decide +kernel
theorem dX12_follows_10 : decode cX12_follows 10 = .ok (.aload_n 0, 1) := by decide +kernel
theorem dX12_follows_11 : decode cX12_follows 11 = .ok (.getfield 36, 3) := by decide +kernel
theorem dX12_follows_14 : decode cX12_follows 14 = .ok (.if_icmp .ge 53, 3) := by decide +kernel
theorem dX12_follows_17 : decode cX12_follows 17 = .ok (.iload 4, 2) := by decide +kernel
theorem dX12_follows_19 : decode cX12_follows 19 = .ok (.ifCond .ne 35, 3) := by decide +kernel
theorem dX12_follows_22 : decode cX12_follows 22 = .ok (.aload_n 0, 1) := by decide +kernel
theorem dX12_follows_23 : decode cX12_follows 23 = .ok (.iload 5, 2) := by decide +kernel
theorem dX12_follows_25 : decode cX12_follows 25 = .ok (.iload_n 1, 1) := by decide +kernel
theorem dX12_follows_26 : decode cX12_follows 26 = .ok (.invokevirtual 72, 3) := by decide +kernel
theorem dX12_follows_29 : decode cX12_follows 29 = .ok (.ifCond .eq 29, 3) := by decide +kernel
theorem dX12_follows_32 : decode cX12_follows 32 = .ok (.aload_n 0, 1) := by decide +kernel
theorem dX12_follows_33 : decode cX12_follows 33 = .ok (.getfield 7, 3) := by decide +kernel
theorem dX12_follows_36 : decode cX12_follows 36 = .ok (.iload 5, 2) := by decide +kernel
theorem dX12_follows_38 : decode cX12_follows 38 = .ok (.iaload, 1) := by decide +kernel
theorem dX12_follows_39 : decode cX12_follows 39 = .ok (.iload_n 2, 1) := by decide +kernel
theorem dX12_follows_40 : decode cX12_follows 40 = .ok (.if_icmp .eq 14, 3) := by decide +kernel
theorem dX12_follows_43 : decode cX12_follows 43 = .ok (.aload_n 0, 1) := by decide +kernel
theorem dX12_follows_44 : decode cX12_follows 44 = .ok (.getfield 7, 3) := by decide +kernel
theorem dX12_follows_47 : decode cX12_follows 47 = .ok (.iload 5, 2) := by decide +kernel
theorem dX12_follows_49 : decode cX12_follows 49 = .ok (.iaload, 1) := by decide +kernel
theorem dX12_follows_50 : decode cX12_follows 50 = .ok (.iload_n 3, 1) := by decide +kernel
theorem dX12_follows_51 : decode cX12_follows 51 = .ok (.if_icmp .ne 7, 3) := by decide +kernel
theorem dX12_follows_54 : decode cX12_follows 54 = .ok (.iconst 1, 1) := by decide +kernel
theorem dX12_follows_55 : decode cX12_follows 55 = .ok (.goto 4, 3) := by decide +kernel
theorem dX12_follows_58 : decode cX12_follows 58 = .ok (.iconst 0, 1) := by decide +kernel
theorem dX12_follows_59 : decode cX12_follows 59 = .ok (.istore 4, 2) := by decide +kernel
theorem dX12_follows_61 : decode cX12_follows 61 = .ok (.iinc 5 1, 3) := by decide +kernel
theorem dX12_follows_64 : decode cX12_follows 64 = .ok (.goto (-56), 3) := by decide +kernel
theorem dX12_follows_67 : decode cX12_follows 67 = .ok (.iload 4, 2) := by decide +kernel
theorem dX12_follows_69 : decode cX12_follows 69 = .ok (.ireturn, 1) := by decide +kernel
set_option maxRecDepth 20000 in
theorem ggX12_isReady_X11_predecessor : GoodIn wsX12_isReady wsX11_predecessor := goodIn_ca (goodIn_r _ [7, 8, 9, 10, 11, 6, 12, 13, 14, 15, 16, 17, 30, 31, 32, 33, 34, 35, 36, 37, 38, 39, 40, 41, 42, 43, 44, 45, 46, 47, 48, 49, 50, 51, 52, 53, 54, 55, 56, 57, 58, 59, 60, 61, 62, 63, 64, 65] rfl (by decide +kernel)) (goodIn_sub (fun _ h => List.mem_cons_of_mem _ (List.mem_append_right _ h)) (by decide +kernel))
set_option maxRecDepth 20000 in
theorem gX12_isReady_X11_predecessor : GoodIn wsX12_isReady (wsV RX12 79 RX11 yX11_predecessor wsX11_predecessor) := goodIn_app (goodIn_of _ (by decide +kernel)) ggX12_isReady_X11_predecessor
