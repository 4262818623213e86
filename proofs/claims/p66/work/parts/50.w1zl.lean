theorem dL_pick_0 : decode cL_pick 0 = .ok (.iload_n 1, 1) := by decide +kernel
theorem dL_pick_1 : decode cL_pick 1 = .ok (.aload_n 0, 1) := by decide +kernel
theorem dL_pick_2 : decode cL_pick 2 = .ok (.arraylength, 1) := by decide +kernel
theorem dL_pick_3 : decode cL_pick 3 = .ok (.if_icmp .ge 14, 3) := by decide +kernel
theorem dL_pick_6 : decode cL_pick 6 = .ok (.aload_n 0, 1) := by decide +kernel
theorem dL_pick_7 : decode cL_pick 7 = .ok (.iload_n 1, 1) := by decide +kernel
theorem dL_pick_8 : decode cL_pick 8 = .ok (.iaload, 1) := by decide +kernel
theorem dL_pick_9 : decode cL_pick 9 = .ok (.ldc 7, 2) := by decide +kernel
theorem dL_pick_11 : decode cL_pick 11 = .ok (.iand, 1) := by decide +kernel
theorem dL_pick_12 : decode cL_pick 12 = .ok (.iload_n 2, 1) := by decide +kernel
theorem dL_pick_13 : decode cL_pick 13 = .ok (.irem, 1) := by decide +kernel
theorem dL_pick_14 : decode cL_pick 14 = .ok (.goto 4, 3) := by decide +kernel
theorem dL_pick_17 : decode cL_pick 17 = .ok (.iconst 0, 1) := by decide +kernel
theorem dL_pick_18 : decode cL_pick 18 = .ok (.ireturn, 1) := by decide +kernel
set_option maxRecDepth 20000 in
theorem ggL_word_J0_length_8abf5 : GoodIn wsL_word wsJ0_length_8abf5 := goodIn_r _ [5, 6, 7, 8, 9, 4, 10, 11, 12, 50, 51, 52, 53] rfl (by decide +kernel)
set_option maxRecDepth 20000 in
theorem gL_word_J0_length_8abf5 : GoodIn wsL_word (wsV RL 8 RJ0 yJ0_length_8abf5 wsJ0_length_8abf5) := goodIn_app (goodIn_of _ (by decide +kernel)) ggL_word_J0_length_8abf5
set_option maxRecDepth 20000 in
theorem ggL_word_J0_charAt_5068e : GoodIn wsL_word wsJ0_charAt_5068e := goodIn_r _ [16, 6, 17, 18, 19, 4, 20, 11, 12, 21, 22, 23, 24, 25, 26, 27, 28, 29, 30, 31, 32, 33, 34, 35, 36, 37, 38, 39, 40, 41, 42, 43, 44, 45, 46, 47, 48, 49, 50, 51, 52, 53] rfl (by decide +kernel)
set_option maxRecDepth 20000 in
theorem gL_word_J0_charAt_5068e : GoodIn wsL_word (wsV RL 14 RJ0 yJ0_charAt_5068e wsJ0_charAt_5068e) := goodIn_app (goodIn_of _ (by decide +kernel)) ggL_word_J0_charAt_5068e
theorem dL_word_0 : decode cL_word 0 = .ok (.iconst 0, 1) := by decide +kernel
theorem dL_word_1 : decode cL_word 1 = .ok (.istore_n 2, 1) := by decide +kernel
theorem dL_word_2 : decode cL_word 2 = .ok (.iload_n 1, 1) := by decide +kernel
theorem dL_word_3 : decode cL_word 3 = .ok (.istore_n 3, 1) := by decide +kernel
theorem dL_word_4 : decode cL_word 4 = .ok (.iload_n 3, 1) := by decide +kernel
theorem dL_word_5 : decode cL_word 5 = .ok (.iload_n 1, 1) := by decide +kernel
theorem dL_word_6 : decode cL_word 6 = .ok (.iconst 4, 1) := by decide +kernel
theorem dL_word_7 : decode cL_word 7 = .ok (.iadd, 1) := by decide +kernel
theorem dL_word_8 : decode cL_word 8 = .ok (.if_icmp .ge 33, 3) := by decide +kernel
theorem dL_word_11 : decode cL_word 11 = .ok (.iload_n 2, 1) := by decide +kernel
theorem dL_word_12 : decode cL_word 12 = .ok (.bipush 8, 2) := by decide +kernel
theorem dL_word_14 : decode cL_word 14 = .ok (.ishl, 1) := by decide +kernel
theorem dL_word_15 : decode cL_word 15 = .ok (.iload_n 3, 1) := by decide +kernel
theorem dL_word_16 : decode cL_word 16 = .ok (.aload_n 0, 1) := by decide +kernel
theorem dL_word_17 : decode cL_word 17 = .ok (.invokevirtual 8, 3) := by decide +kernel
theorem dL_word_20 : decode cL_word 20 = .ok (.if_icmp .ge 11, 3) := by decide +kernel
theorem dL_word_23 : decode cL_word 23 = .ok (.aload_n 0, 1) := by decide +kernel
theorem dL_word_24 : decode cL_word 24 = .ok (.iload_n 3, 1) := by decide +kernel
theorem dL_word_25 : decode cL_word 25 = .ok (.invokevirtual 14, 3) := by decide +kernel
theorem dL_word_28 : decode cL_word 28 = .ok (.goto 5, 3) := by decide +kernel
theorem dL_word_31 : decode cL_word 31 = .ok (.bipush 32, 2) := by decide +kernel
theorem dL_word_33 : decode cL_word 33 = .ok (.ior, 1) := by decide +kernel
theorem dL_word_34 : decode cL_word 34 = .ok (.istore_n 2, 1) := by decide +kernel
theorem dL_word_35 : decode cL_word 35 = .ok (.iinc 3 1, 3) := by decide +kernel
theorem dL_word_38 : decode cL_word 38 = .ok (.goto (-34), 3) := by decide +kernel
theorem dL_word_41 : decode cL_word 41 = .ok (.iload_n 2, 1) := by decide +kernel
theorem dL_word_42 : decode cL_word 42 = .ok (.ireturn, 1) := by decide +kernel
set_option maxRecDepth 20000 in
theorem ggL_say_X11_truncate : GoodIn wsL_say wsX11_truncate := goodIn_ca (goodIn_r _ [5, 6, 7, 8, 9, 10, 4, 11, 82, 83, 84, 85, 86, 87, 88, 89, 90, 91, 92, 93, 94] rfl (by decide +kernel)) (goodIn_sub (fun _ h => List.mem_cons_of_mem _ (List.mem_append_left _ (List.mem_append_right _ h))) (by decide +kernel))
set_option maxRecDepth 20000 in
theorem gL_say_X11_truncate : GoodIn wsL_say (wsV RL 18 RX11 yX11_truncate wsX11_truncate) := goodIn_app (goodIn_of _ (by decide +kernel)) ggL_say_X11_truncate
set_option maxRecDepth 20000 in
theorem ggL_say_J0_length_8abf5 : GoodIn wsL_say wsJ0_length_8abf5 := goodIn_r _ [16, 17, 18, 19, 20, 15, 21, 22, 23, 95, 96, 97, 98] rfl (by decide +kernel)
set_option maxRecDepth 20000 in
theorem gL_say_J0_length_8abf5 : GoodIn wsL_say (wsV RL 8 RJ0 yJ0_length_8abf5 wsJ0_length_8abf5) := goodIn_app (goodIn_of _ (by decide +kernel)) ggL_say_J0_length_8abf5
set_option maxRecDepth 20000 in
theorem ggL_say_L_word : GoodIn wsL_say wsL_word := goodIn_r _ [27, 12, 13, 14, 15, 16, 17, 18, 19, 20, 21, 22, 23, 28, 29, 30, 31, 32, 33, 34, 35, 36, 37, 38, 39, 40, 41, 42, 43, 44, 45, 46, 47, 48, 49, 50, 51, 52, 53, 54, 55, 56, 57, 58, 59, 60, 61, 62, 63, 64, 95, 96, 97, 98] rfl (by decide +kernel)
set_option maxRecDepth 20000 in
theorem gL_say_L_word : GoodIn wsL_say (va_wsS RL 24 yL_word wsL_word) := goodIn_app (goodIn_of _ (by decide +kernel)) ggL_say_L_word
set_option maxRecDepth 20000 in
theorem ggL_say_X11_append : GoodIn wsL_say wsX11_append := goodIn_ca (goodIn_r _ [68, 69, 70, 8, 71, 72, 73, 74, 75, 76, 77, 78, 79, 80, 81, 82, 83, 84, 85, 86, 87, 88, 89, 90, 91, 92, 93, 94] rfl (by decide +kernel)) (goodIn_sub (fun _ h => List.mem_cons_of_mem _ (List.mem_append_right _ h)) (by decide +kernel))
set_option maxRecDepth 20000 in
theorem gL_say_X11_append : GoodIn wsL_say (wsV RL 30 RX11 yX11_append wsX11_append) := goodIn_app (goodIn_of _ (by decide +kernel)) ggL_say_X11_append
theorem dL_say_0 : decode cL_say 0 = .ok (.aload_n 0, 1) := by decide +kernel
theorem dL_say_1 : decode cL_say 1 = .ok (.iconst 0, 1) := by decide +kernel
theorem dL_say_2 : decode cL_say 2 = .ok (.invokevirtual 18, 3) := by decide +kernel
theorem dL_say_5 : decode cL_say 5 = .ok (.pop, 1) := by decide +kernel
theorem dL_say_6 : decode cL_say 6 = .ok (.iconst 0, 1) := by decide +kernel
theorem dL_say_7 : decode cL_say 7 = .ok (.istore_n 2, 1) := by decide +kernel
theorem dL_say_8 : decode cL_say 8 = .ok (.iload_n 2, 1) := by decide +kernel
theorem dL_say_9 : decode cL_say 9 = .ok (.aload_n 1, 1) := by decide +kernel
theorem dL_say_10 : decode cL_say 10 = .ok (.invokevirtual 8, 3) := by decide +kernel
theorem dL_say_13 : decode cL_say 13 = .ok (.if_icmp .ge 50, 3) := by decide +kernel
theorem dL_say_16 : decode cL_say 16 = .ok (.aload_n 0, 1) := by decide +kernel
theorem dL_say_17 : decode cL_say 17 = .ok (.aload_n 1, 1) := by decide +kernel
theorem dL_say_18 : decode cL_say 18 = .ok (.iload_n 2, 1) := by decide +kernel
theorem dL_say_19 : decode cL_say 19 = .ok (.invokestatic 24, 3) := by decide +kernel
theorem dL_say_22 : decode cL_say 22 = .ok (.aload_n 1, 1) := by decide +kernel
theorem dL_say_23 : decode cL_say 23 = .ok (.iload_n 2, 1) := by decide +kernel
theorem dL_say_24 : decode cL_say 24 = .ok (.iconst 4, 1) := by decide +kernel
theorem dL_say_25 : decode cL_say 25 = .ok (.iadd, 1) := by decide +kernel
theorem dL_say_26 : decode cL_say 26 = .ok (.invokestatic 24, 3) := by decide +kernel
theorem dL_say_29 : decode cL_say 29 = .ok (.aload_n 1, 1) := by decide +kernel
theorem dL_say_30 : decode cL_say 30 = .ok (.iload_n 2, 1) := by decide +kernel
theorem dL_say_31 : decode cL_say 31 = .ok (.bipush 8, 2) := by decide +kernel
theorem dL_say_33 : decode cL_say 33 = .ok (.iadd, 1) := by decide +kernel
theorem dL_say_34 : decode cL_say 34 = .ok (.invokestatic 24, 3) := by decide +kernel
theorem dL_say_37 : decode cL_say 37 = .ok (.aload_n 1, 1) := by decide +kernel
theorem dL_say_38 : decode cL_say 38 = .ok (.iload_n 2, 1) := by decide +kernel
theorem dL_say_39 : decode cL_say 39 = .ok (.bipush 12, 2) := by decide +kernel
theorem dL_say_41 : decode cL_say 41 = .ok (.iadd, 1) := by decide +kernel
theorem dL_say_42 : decode cL_say 42 = .ok (.invokestatic 24, 3) := by decide +kernel
theorem dL_say_45 : decode cL_say 45 = .ok (.aload_n 1, 1) := by decide +kernel
theorem dL_say_46 : decode cL_say 46 = .ok (.iload_n 2, 1) := by decide +kernel
theorem dL_say_47 : decode cL_say 47 = .ok (.bipush 16, 2) := by decide +kernel
theorem dL_say_49 : decode cL_say 49 = .ok (.iadd, 1) := by decide +kernel
theorem dL_say_50 : decode cL_say 50 = .ok (.invokestatic 24, 3) := by decide +kernel
theorem dL_say_53 : decode cL_say 53 = .ok (.invokevirtual 30, 3) := by decide +kernel
theorem dL_say_56 : decode cL_say 56 = .ok (.pop, 1) := by decide +kernel
theorem dL_say_57 : decode cL_say 57 = .ok (.iinc 2 20, 3) := by decide +kernel
theorem dL_say_60 : decode cL_say 60 = .ok (.goto (-52), 3) := by decide +kernel
theorem dL_say_63 : decode cL_say 63 = .ok (.aload_n 0, 1) := by decide +kernel
theorem dL_say_64 : decode cL_say 64 = .ok (.aload_n 1, 1) := by decide +kernel
theorem dL_say_65 : decode cL_say 65 = .ok (.invokevirtual 8, 3) := by decide +kernel
theorem dL_say_68 : decode cL_say 68 = .ok (.invokevirtual 18, 3) := by decide +kernel
theorem dL_say_71 : decode cL_say 71 = .ok (.aload_n 1, 1) := by decide +kernel
theorem dL_say_72 : decode cL_say 72 = .ok (.invokevirtual 8, 3) := by decide +kernel
theorem dL_say_75 : decode cL_say 75 = .ok (.if_icmp .ne 7, 3) := by decide +kernel
theorem dL_say_78 : decode cL_say 78 = .ok (.iconst 1, 1) := by decide +kernel
theorem dL_say_79 : decode cL_say 79 = .ok (.goto 4, 3) := by decide +kernel
theorem dL_say_82 : decode cL_say 82 = .ok (.iconst 0, 1) := by decide +kernel
theorem dL_say_83 : decode cL_say 83 = .ok (.ireturn, 1) := by decide +kernel
set_option maxRecDepth 20000 in
theorem ggL_setup_L_pick : GoodIn wsL_setup wsL_pick := goodIn_r _ [8, 9] rfl (by decide +kernel)
set_option maxRecDepth 20000 in
theorem gL_setup_L_pick : GoodIn wsL_setup (va_wsS RL 34 yL_pick wsL_pick) := goodIn_app (goodIn_of _ (by decide +kernel)) ggL_setup_L_pick
set_option maxRecDepth 20000 in
theorem ggL_setup_J4_init_a7421 : GoodIn wsL_setup wsJ4_init_a7421 := goodIn_r _ [12, 13, 14, 15, 16, 17, 18, 19, 20, 21, 22, 23, 24, 25, 26, 27, 28, 29, 30, 31, 32, 33, 34, 35, 36, 37, 38, 39, 40, 41, 42, 43, 44, 45, 46, 47, 48, 49, 50, 3, 51, 52, 53, 54, 55, 56, 57, 58, 59, 60, 61, 62, 63, 64, 65, 66, 67, 68, 69, 70, 71, 72, 73, 74, 75, 76, 77, 78, 79, 80, 81, 82, 83, 84, 85, 86, 87, 88, 89, 90, 91, 92, 93, 94, 95, 96, 97, 98, 99, 100, 101, 102, 103, 104, 105, 106, 107, 108, 109, 110, 111, 112, 113, 114, 115, 116, 117, 118, 119, 120, 121, 122, 123, 124, 125, 126, 127, 128, 129, 130, 131, 132, 133, 134, 135, 136, 137, 138, 139, 140, 141, 142, 143, 144, 145, 146, 147, 148, 149, 150, 151, 152, 153, 154, 155, 156, 157, 158, 159, 160, 161, 162, 163, 164, 165, 166, 167, 168, 169, 170, 271, 272, 273, 274, 275, 276, 277, 278] rfl (by decide +kernel)
set_option maxRecDepth 20000 in
theorem gL_setup_J4_init_a7421 : GoodIn wsL_setup (wsJ4_init_a7421) := ggL_setup_J4_init_a7421
set_option maxRecDepth 20000 in
theorem ggL_setup_J4_append_bf812 : GoodIn wsL_setup wsJ4_append_bf812 := goodIn_r _ [174, 175, 176, 57, 177, 15, 178, 60, 24, 179, 180, 181, 182, 66, 67, 68, 69, 70, 22, 71, 72, 73, 74, 75, 21, 76, 77, 78, 79, 80, 81, 82, 83, 84, 85, 86, 87, 88, 89, 90, 91, 92, 93, 94, 95, 96, 97, 23, 98, 99, 100, 101, 102, 103, 104, 105, 106, 107, 108, 109, 110, 183, 184, 185, 186, 187, 188, 189, 40, 190, 114, 115, 116, 117, 118, 119, 120, 121, 122, 28, 123, 124, 125, 126, 127, 128, 191, 192, 193, 194, 195, 129, 130, 131, 132, 133, 271, 272, 273, 274] rfl (by decide +kernel)
set_option maxRecDepth 20000 in
theorem gL_setup_J4_append_bf812 : GoodIn wsL_setup (wsV RL 45 RJ4 yJ4_append_bf812 wsJ4_append_bf812) := goodIn_app (goodIn_of _ (by decide +kernel)) ggL_setup_J4_append_bf812
set_option maxRecDepth 20000 in
theorem ggL_setup_J4_append_cf468 : GoodIn wsL_setup wsJ4_append_cf468 := goodIn_r _ [199, 200, 201, 57, 202, 15, 203, 60, 24, 66, 67, 68, 69, 70, 22, 71, 72, 73, 74, 75, 21, 76, 77, 78, 79, 80, 81, 82, 83, 84, 85, 86, 87, 88, 89, 90, 91, 92, 93, 94, 95, 96, 97, 23, 98, 99, 100, 101, 102, 103, 104, 105, 106, 107, 108, 109, 110, 204, 205, 151, 206, 144, 145, 146, 147, 148, 38, 39, 40, 41, 42, 43, 44, 45, 149, 150, 152, 153, 154, 155, 156, 157, 158, 118, 119, 120, 159, 160, 28, 161, 124, 162, 163, 127, 164, 129, 130, 131, 114, 132, 133, 207, 208, 209, 210, 211, 212, 213, 214, 215, 216, 217, 218, 271, 272, 273, 274] rfl (by decide +kernel)
set_option maxRecDepth 20000 in
theorem gL_setup_J4_append_cf468 : GoodIn wsL_setup (wsV RL 48 RJ4 yJ4_append_cf468 wsJ4_append_cf468) := goodIn_app (goodIn_of _ (by decide +kernel)) ggL_setup_J4_append_cf468
set_option maxRecDepth 20000 in
theorem ggL_setup_J4_append_15ec4 : GoodIn wsL_setup wsJ4_append_15ec4 := goodIn_r _ [55, 56, 47, 57, 58, 15, 59, 60, 61, 62, 63, 64, 65, 24, 66, 67, 68, 69, 70, 22, 71, 72, 73, 74, 75, 21, 76, 77, 78, 79, 80, 81, 82, 83, 84, 85, 86, 87, 88, 89, 90, 91, 92, 93, 94, 95, 96, 97, 23, 98, 99, 100, 101, 102, 103, 104, 105, 106, 107, 108, 109, 110, 111, 112, 40, 113, 114, 115, 116, 117, 118, 119, 120, 121, 122, 28, 123, 124, 125, 126, 127, 128, 129, 130, 131, 132, 133, 25, 26, 27, 29, 30, 31, 32, 33, 34, 35, 36, 134, 135, 136, 137, 138, 139, 140, 141, 142, 143, 37, 144, 145, 146, 147, 148, 38, 39, 41, 42, 43, 44, 45, 149, 150, 151, 152, 153, 154, 155, 156, 157, 158, 159, 160, 161, 162, 163, 164, 165, 166, 167, 168, 169, 170, 271, 272, 273, 274, 275, 276, 277, 278] rfl (by decide +kernel)
set_option maxRecDepth 20000 in
theorem gL_setup_J4_append_15ec4 : GoodIn wsL_setup (wsV RL 53 RJ4 yJ4_append_15ec4 wsJ4_append_15ec4) := goodIn_app (goodIn_of _ (by decide +kernel)) ggL_setup_J4_append_15ec4
set_option maxRecDepth 20000 in
theorem ggL_setup_J4_toString_0e30d : GoodIn wsL_setup wsJ4_toString_0e30d := goodIn_r _ [223, 224, 225, 28, 226, 227, 228, 229, 230, 231, 232, 18, 19, 36, 30, 35, 233, 234, 235, 236, 237, 15, 238, 24, 239, 240, 241, 242, 243, 3, 244, 245, 57, 246, 247, 60, 248, 106, 107, 108, 109, 110, 22, 249, 250, 90, 251, 92, 93, 94, 95, 96, 97, 252, 253, 254, 23, 98, 99, 82, 100, 101, 102, 103, 104, 255, 256, 257, 258, 259, 40, 260, 261, 262, 263, 156, 157, 158, 118, 119, 120, 159, 160, 161, 124, 162, 163, 127, 164, 264, 265, 266, 114, 132, 133, 42, 43, 44, 45, 267, 268, 269, 270, 275, 276, 277, 278, 271, 272, 273, 274] rfl (by decide +kernel)
set_option maxRecDepth 20000 in
theorem gL_setup_J4_toString_0e30d : GoodIn wsL_setup (wsV RL 71 RJ4 yJ4_toString_0e30d wsJ4_toString_0e30d) := goodIn_app (goodIn_of _ (by decide +kernel)) ggL_setup_J4_toString_0e30d
theorem dL_setup_0 : decode cL_setup 0 = .ok (.aload_n 0, 1) := by decide +kernel
theorem dL_setup_1 : decode cL_setup 1 = .ok (.iconst 1, 1) := by decide +kernel
theorem dL_setup_2 : decode cL_setup 2 = .ok (.iconst 4, 1) := by decide +kernel
theorem dL_setup_3 : decode cL_setup 3 = .ok (.invokestatic 34, 3) := by decide +kernel
theorem dL_setup_6 : decode cL_setup 6 = .ok (.istore_n 2, 1) := by decide +kernel
theorem dL_setup_7 : decode cL_setup 7 = .ok (.aload_n 0, 1) := by decide +kernel
theorem dL_setup_8 : decode cL_setup 8 = .ok (.iconst 2, 1) := by decide +kernel
theorem dL_setup_9 : decode cL_setup 9 = .ok (.bipush 12, 2) := by decide +kernel
theorem dL_setup_11 : decode cL_setup 11 = .ok (.invokestatic 34, 3) := by decide +kernel
theorem dL_setup_14 : decode cL_setup 14 = .ok (.istore_n 3, 1) := by decide +kernel
theorem dL_setup_15 : decode cL_setup 15 = .ok (.new 38, 3) := by decide +kernel
theorem dL_setup_18 : decode cL_setup 18 = .ok (.dup, 1) := by decide +kernel
theorem dL_setup_19 : decode cL_setup 19 = .ok (.ldc 40, 2) := by decide +kernel
theorem dL_setup_21 : decode cL_setup 21 = .ok (.invokespecial 42, 3) := by decide +kernel
theorem dL_setup_24 : decode cL_setup 24 = .ok (.iconst 1, 1) := by decide +kernel
theorem dL_setup_25 : decode cL_setup 25 = .ok (.aload_n 0, 1) := by decide +kernel
theorem dL_setup_26 : decode cL_setup 26 = .ok (.iconst 3, 1) := by decide +kernel
theorem dL_setup_27 : decode cL_setup 27 = .ok (.iconst 3, 1) := by decide +kernel
theorem dL_setup_28 : decode cL_setup 28 = .ok (.invokestatic 34, 3) := by decide +kernel
theorem dL_setup_31 : decode cL_setup 31 = .ok (.iadd, 1) := by decide +kernel
theorem dL_setup_32 : decode cL_setup 32 = .ok (.invokevirtual 45, 3) := by decide +kernel
theorem dL_setup_35 : decode cL_setup 35 = .ok (.bipush 32, 2) := by decide +kernel
theorem dL_setup_37 : decode cL_setup 37 = .ok (.invokevirtual 48, 3) := by decide +kernel
theorem dL_setup_40 : decode cL_setup 40 = .ok (.aload_n 0, 1) := by decide +kernel
theorem dL_setup_41 : decode cL_setup 41 = .ok (.iconst 4, 1) := by decide +kernel
theorem dL_setup_42 : decode cL_setup 42 = .ok (.bipush 6, 2) := by decide +kernel
theorem dL_setup_44 : decode cL_setup 44 = .ok (.invokestatic 34, 3) := by decide +kernel
theorem dL_setup_47 : decode cL_setup 47 = .ok (.invokevirtual 45, 3) := by decide +kernel
theorem dL_setup_50 : decode cL_setup 50 = .ok (.bipush 32, 2) := by decide +kernel
theorem dL_setup_52 : decode cL_setup 52 = .ok (.invokevirtual 48, 3) := by decide +kernel
theorem dL_setup_55 : decode cL_setup 55 = .ok (.iload_n 3, 1) := by decide +kernel
theorem dL_setup_56 : decode cL_setup 56 = .ok (.invokevirtual 45, 3) := by decide +kernel
theorem dL_setup_59 : decode cL_setup 59 = .ok (.bipush 32, 2) := by decide +kernel
theorem dL_setup_61 : decode cL_setup 61 = .ok (.invokevirtual 48, 3) := by decide +kernel
theorem dL_setup_64 : decode cL_setup 64 = .ok (.iload_n 3, 1) := by decide +kernel
theorem dL_setup_65 : decode cL_setup 65 = .ok (.aload_n 0, 1) := by decide +kernel
theorem dL_setup_66 : decode cL_setup 66 = .ok (.iconst 5, 1) := by decide +kernel
theorem dL_setup_67 : decode cL_setup 67 = .ok (.bipush 20, 2) := by decide +kernel
theorem dL_setup_69 : decode cL_setup 69 = .ok (.invokestatic 34, 3) := by decide +kernel
theorem dL_setup_72 : decode cL_setup 72 = .ok (.iadd, 1) := by decide +kernel
theorem dL_setup_73 : decode cL_setup 73 = .ok (.invokevirtual 45, 3) := by decide +kernel
theorem dL_setup_76 : decode cL_setup 76 = .ok (.bipush 59, 2) := by decide +kernel
theorem dL_setup_78 : decode cL_setup 78 = .ok (.invokevirtual 48, 3) := by decide +kernel
theorem dL_setup_81 : decode cL_setup 81 = .ok (.astore 4, 2) := by decide +kernel
theorem dL_setup_83 : decode cL_setup 83 = .ok (.iconst 0, 1) := by decide +kernel
theorem dL_setup_84 : decode cL_setup 84 = .ok (.istore 5, 2) := by decide +kernel
theorem dL_setup_86 : decode cL_setup 86 = .ok (.iload 5, 2) := by decide +kernel
theorem dL_setup_88 : decode cL_setup 88 = .ok (.iload_n 2, 1) := by decide +kernel
theorem dL_setup_89 : decode cL_setup 89 = .ok (.if_icmp .ge 51, 3) := by decide +kernel
theorem dL_setup_92 : decode cL_setup 92 = .ok (.aload 4, 2) := by decide +kernel
theorem dL_setup_94 : decode cL_setup 94 = .ok (.ldc 51, 2) := by decide +kernel
theorem dL_setup_96 : decode cL_setup 96 = .ok (.invokevirtual 53, 3) := by decide +kernel
theorem dL_setup_99 : decode cL_setup 99 = .ok (.bipush 97, 2) := by decide +kernel
theorem dL_setup_101 : decode cL_setup 101 = .ok (.iload 5, 2) := by decide +kernel
theorem dL_setup_103 : decode cL_setup 103 = .ok (.iadd, 1) := by decide +kernel
theorem dL_setup_104 : decode cL_setup 104 = .ok (.i2c, 1) := by decide +kernel
theorem dL_setup_105 : decode cL_setup 105 = .ok (.invokevirtual 48, 3) := by decide +kernel
theorem dL_setup_108 : decode cL_setup 108 = .ok (.bipush 32, 2) := by decide +kernel
theorem dL_setup_110 : decode cL_setup 110 = .ok (.invokevirtual 48, 3) := by decide +kernel
theorem dL_setup_113 : decode cL_setup 113 = .ok (.iconst 1, 1) := by decide +kernel
theorem dL_setup_114 : decode cL_setup 114 = .ok (.aload_n 0, 1) := by decide +kernel
theorem dL_setup_115 : decode cL_setup 115 = .ok (.bipush 6, 2) := by decide +kernel
theorem dL_setup_117 : decode cL_setup 117 = .ok (.iload 5, 2) := by decide +kernel
theorem dL_setup_119 : decode cL_setup 119 = .ok (.iadd, 1) := by decide +kernel
theorem dL_setup_120 : decode cL_setup 120 = .ok (.iconst 3, 1) := by decide +kernel
theorem dL_setup_121 : decode cL_setup 121 = .ok (.invokestatic 34, 3) := by decide +kernel
theorem dL_setup_124 : decode cL_setup 124 = .ok (.iadd, 1) := by decide +kernel
theorem dL_setup_125 : decode cL_setup 125 = .ok (.invokevirtual 45, 3) := by decide +kernel
theorem dL_setup_128 : decode cL_setup 128 = .ok (.bipush 59, 2) := by decide +kernel
theorem dL_setup_130 : decode cL_setup 130 = .ok (.invokevirtual 48, 3) := by decide +kernel
theorem dL_setup_133 : decode cL_setup 133 = .ok (.pop, 1) := by decide +kernel
theorem dL_setup_134 : decode cL_setup 134 = .ok (.iinc 5 1, 3) := by decide +kernel
theorem dL_setup_137 : decode cL_setup 137 = .ok (.goto (-51), 3) := by decide +kernel
theorem dL_setup_140 : decode cL_setup 140 = .ok (.iconst 0, 1) := by decide +kernel
theorem dL_setup_141 : decode cL_setup 141 = .ok (.istore 5, 2) := by decide +kernel
theorem dL_setup_143 : decode cL_setup 143 = .ok (.iload 5, 2) := by decide +kernel
theorem dL_setup_145 : decode cL_setup 145 = .ok (.iload_n 1, 1) := by decide +kernel
theorem dL_setup_146 : decode cL_setup 146 = .ok (.if_icmp .ge 262, 3) := by decide +kernel
theorem dL_setup_149 : decode cL_setup 149 = .ok (.aload_n 0, 1) := by decide +kernel
theorem dL_setup_150 : decode cL_setup 150 = .ok (.bipush 9, 2) := by decide +kernel
theorem dL_setup_152 : decode cL_setup 152 = .ok (.iload 5, 2) := by decide +kernel
theorem dL_setup_154 : decode cL_setup 154 = .ok (.iadd, 1) := by decide +kernel
theorem dL_setup_155 : decode cL_setup 155 = .ok (.ldc 56, 2) := by decide +kernel
theorem dL_setup_157 : decode cL_setup 157 = .ok (.invokestatic 34, 3) := by decide +kernel
theorem dL_setup_160 : decode cL_setup 160 = .ok (.istore 6, 2) := by decide +kernel
theorem dL_setup_162 : decode cL_setup 162 = .ok (.aload 4, 2) := by decide +kernel
theorem dL_setup_164 : decode cL_setup 164 = .ok (.ldc 57, 2) := by decide +kernel
theorem dL_setup_166 : decode cL_setup 166 = .ok (.invokevirtual 53, 3) := by decide +kernel
theorem dL_setup_169 : decode cL_setup 169 = .ok (.bipush 97, 2) := by decide +kernel
theorem dL_setup_171 : decode cL_setup 171 = .ok (.iload 5, 2) := by decide +kernel
theorem dL_setup_173 : decode cL_setup 173 = .ok (.iadd, 1) := by decide +kernel
theorem dL_setup_174 : decode cL_setup 174 = .ok (.i2c, 1) := by decide +kernel
theorem dL_setup_175 : decode cL_setup 175 = .ok (.invokevirtual 48, 3) := by decide +kernel
theorem dL_setup_178 : decode cL_setup 178 = .ok (.bipush 32, 2) := by decide +kernel
theorem dL_setup_180 : decode cL_setup 180 = .ok (.invokevirtual 48, 3) := by decide +kernel
theorem dL_setup_183 : decode cL_setup 183 = .ok (.iconst 1, 1) := by decide +kernel
theorem dL_setup_184 : decode cL_setup 184 = .ok (.iload 6, 2) := by decide +kernel
theorem dL_setup_186 : decode cL_setup 186 = .ok (.bipush 7, 2) := by decide +kernel
theorem dL_setup_188 : decode cL_setup 188 = .ok (.irem, 1) := by decide +kernel
theorem dL_setup_189 : decode cL_setup 189 = .ok (.iadd, 1) := by decide +kernel
theorem dL_setup_190 : decode cL_setup 190 = .ok (.invokevirtual 45, 3) := by decide +kernel
theorem dL_setup_193 : decode cL_setup 193 = .ok (.bipush 32, 2) := by decide +kernel
theorem dL_setup_195 : decode cL_setup 195 = .ok (.invokevirtual 48, 3) := by decide +kernel
theorem dL_setup_198 : decode cL_setup 198 = .ok (.iload 6, 2) := by decide +kernel
theorem dL_setup_200 : decode cL_setup 200 = .ok (.bipush 8, 2) := by decide +kernel
theorem dL_setup_202 : decode cL_setup 202 = .ok (.idiv, 1) := by decide +kernel
theorem dL_setup_203 : decode cL_setup 203 = .ok (.bipush 6, 2) := by decide +kernel
theorem dL_setup_205 : decode cL_setup 205 = .ok (.irem, 1) := by decide +kernel
theorem dL_setup_206 : decode cL_setup 206 = .ok (.invokevirtual 45, 3) := by decide +kernel
theorem dL_setup_209 : decode cL_setup 209 = .ok (.pop, 1) := by decide +kernel
theorem dL_setup_210 : decode cL_setup 210 = .ok (.iload_n 2, 1) := by decide +kernel
theorem dL_setup_211 : decode cL_setup 211 = .ok (.ifCond .le 36, 3) := by decide +kernel
theorem dL_setup_214 : decode cL_setup 214 = .ok (.iload 6, 2) := by decide +kernel
theorem dL_setup_216 : decode cL_setup 216 = .ok (.bipush 64, 2) := by decide +kernel
theorem dL_setup_218 : decode cL_setup 218 = .ok (.idiv, 1) := by decide +kernel
theorem dL_setup_219 : decode cL_setup 219 = .ok (.iconst 2, 1) := by decide +kernel
theorem dL_setup_220 : decode cL_setup 220 = .ok (.irem, 1) := by decide +kernel
theorem dL_setup_221 : decode cL_setup 221 = .ok (.ifCond .ne 26, 3) := by decide +kernel
theorem dL_setup_224 : decode cL_setup 224 = .ok (.aload 4, 2) := by decide +kernel
theorem dL_setup_226 : decode cL_setup 226 = .ok (.ldc 59, 2) := by decide +kernel
theorem dL_setup_228 : decode cL_setup 228 = .ok (.invokevirtual 53, 3) := by decide +kernel
theorem dL_setup_231 : decode cL_setup 231 = .ok (.bipush 97, 2) := by decide +kernel
theorem dL_setup_233 : decode cL_setup 233 = .ok (.iload 6, 2) := by decide +kernel
theorem dL_setup_235 : decode cL_setup 235 = .ok (.sipush 128, 3) := by decide +kernel
theorem dL_setup_238 : decode cL_setup 238 = .ok (.idiv, 1) := by decide +kernel
theorem dL_setup_239 : decode cL_setup 239 = .ok (.iload_n 2, 1) := by decide +kernel
theorem dL_setup_240 : decode cL_setup 240 = .ok (.irem, 1) := by decide +kernel
theorem dL_setup_241 : decode cL_setup 241 = .ok (.iadd, 1) := by decide +kernel
theorem dL_setup_242 : decode cL_setup 242 = .ok (.i2c, 1) := by decide +kernel
theorem dL_setup_243 : decode cL_setup 243 = .ok (.invokevirtual 48, 3) := by decide +kernel
theorem dL_setup_246 : decode cL_setup 246 = .ok (.pop, 1) := by decide +kernel
theorem dL_setup_247 : decode cL_setup 247 = .ok (.aload 4, 2) := by decide +kernel
theorem dL_setup_249 : decode cL_setup 249 = .ok (.iload 6, 2) := by decide +kernel
theorem dL_setup_251 : decode cL_setup 251 = .ok (.sipush 512, 3) := by decide +kernel
theorem dL_setup_254 : decode cL_setup 254 = .ok (.idiv, 1) := by decide +kernel
theorem dL_setup_255 : decode cL_setup 255 = .ok (.iconst 3, 1) := by decide +kernel
theorem dL_setup_256 : decode cL_setup 256 = .ok (.irem, 1) := by decide +kernel
theorem dL_setup_257 : decode cL_setup 257 = .ok (.ifCond .ne 8, 3) := by decide +kernel
theorem dL_setup_260 : decode cL_setup 260 = .ok (.ldc 61, 2) := by decide +kernel
theorem dL_setup_262 : decode cL_setup 262 = .ok (.goto 5, 3) := by decide +kernel
theorem dL_setup_265 : decode cL_setup 265 = .ok (.ldc 63, 2) := by decide +kernel
theorem dL_setup_267 : decode cL_setup 267 = .ok (.invokevirtual 53, 3) := by decide +kernel
theorem dL_setup_270 : decode cL_setup 270 = .ok (.iload 6, 2) := by decide +kernel
theorem dL_setup_272 : decode cL_setup 272 = .ok (.sipush 2048, 3) := by decide +kernel
theorem dL_setup_275 : decode cL_setup 275 = .ok (.idiv, 1) := by decide +kernel
theorem dL_setup_276 : decode cL_setup 276 = .ok (.iconst 3, 1) := by decide +kernel
theorem dL_setup_277 : decode cL_setup 277 = .ok (.irem, 1) := by decide +kernel
theorem dL_setup_278 : decode cL_setup 278 = .ok (.ifCond .ne 8, 3) := by decide +kernel
theorem dL_setup_281 : decode cL_setup 281 = .ok (.ldc 65, 2) := by decide +kernel
theorem dL_setup_283 : decode cL_setup 283 = .ok (.goto 5, 3) := by decide +kernel
theorem dL_setup_286 : decode cL_setup 286 = .ok (.ldc 63, 2) := by decide +kernel
theorem dL_setup_288 : decode cL_setup 288 = .ok (.invokevirtual 53, 3) := by decide +kernel
theorem dL_setup_291 : decode cL_setup 291 = .ok (.pop, 1) := by decide +kernel
theorem dL_setup_292 : decode cL_setup 292 = .ok (.iconst 0, 1) := by decide +kernel
theorem dL_setup_293 : decode cL_setup 293 = .ok (.istore 7, 2) := by decide +kernel
theorem dL_setup_295 : decode cL_setup 295 = .ok (.iconst 0, 1) := by decide +kernel
theorem dL_setup_296 : decode cL_setup 296 = .ok (.istore 8, 2) := by decide +kernel
theorem dL_setup_298 : decode cL_setup 298 = .ok (.iload 8, 2) := by decide +kernel
theorem dL_setup_300 : decode cL_setup 300 = .ok (.iconst 3, 1) := by decide +kernel
theorem dL_setup_301 : decode cL_setup 301 = .ok (.if_icmp .ge 93, 3) := by decide +kernel
theorem dL_setup_304 : decode cL_setup 304 = .ok (.iload 5, 2) := by decide +kernel
theorem dL_setup_306 : decode cL_setup 306 = .ok (.ifCond .le 88, 3) := by decide +kernel
theorem dL_setup_309 : decode cL_setup 309 = .ok (.iload 6, 2) := by decide +kernel
theorem dL_setup_311 : decode cL_setup 311 = .ok (.bipush 13, 2) := by decide +kernel
theorem dL_setup_313 : decode cL_setup 313 = .ok (.iconst 4, 1) := by decide +kernel
theorem dL_setup_314 : decode cL_setup 314 = .ok (.iload 8, 2) := by decide +kernel
theorem dL_setup_316 : decode cL_setup 316 = .ok (.imul, 1) := by decide +kernel
theorem dL_setup_317 : decode cL_setup 317 = .ok (.iadd, 1) := by decide +kernel
theorem dL_setup_318 : decode cL_setup 318 = .ok (.ishr, 1) := by decide +kernel
theorem dL_setup_319 : decode cL_setup 319 = .ok (.iload 5, 2) := by decide +kernel
theorem dL_setup_321 : decode cL_setup 321 = .ok (.irem, 1) := by decide +kernel
theorem dL_setup_322 : decode cL_setup 322 = .ok (.istore 9, 2) := by decide +kernel
theorem dL_setup_324 : decode cL_setup 324 = .ok (.iload 6, 2) := by decide +kernel
theorem dL_setup_326 : decode cL_setup 326 = .ok (.bipush 25, 2) := by decide +kernel
theorem dL_setup_328 : decode cL_setup 328 = .ok (.iload 8, 2) := by decide +kernel
theorem dL_setup_330 : decode cL_setup 330 = .ok (.iadd, 1) := by decide +kernel
theorem dL_setup_331 : decode cL_setup 331 = .ok (.ishr, 1) := by decide +kernel
theorem dL_setup_332 : decode cL_setup 332 = .ok (.iconst 2, 1) := by decide +kernel
theorem dL_setup_333 : decode cL_setup 333 = .ok (.irem, 1) := by decide +kernel
theorem dL_setup_334 : decode cL_setup 334 = .ok (.iconst 1, 1) := by decide +kernel
theorem dL_setup_335 : decode cL_setup 335 = .ok (.if_icmp .eq 53, 3) := by decide +kernel
theorem dL_setup_338 : decode cL_setup 338 = .ok (.iload 7, 2) := by decide +kernel
theorem dL_setup_340 : decode cL_setup 340 = .ok (.iload 9, 2) := by decide +kernel
theorem dL_setup_342 : decode cL_setup 342 = .ok (.ishr, 1) := by decide +kernel
theorem dL_setup_343 : decode cL_setup 343 = .ok (.iconst 1, 1) := by decide +kernel
theorem dL_setup_344 : decode cL_setup 344 = .ok (.iand, 1) := by decide +kernel
theorem dL_setup_345 : decode cL_setup 345 = .ok (.iconst 1, 1) := by decide +kernel
theorem dL_setup_346 : decode cL_setup 346 = .ok (.if_icmp .ne 6, 3) := by decide +kernel
theorem dL_setup_349 : decode cL_setup 349 = .ok (.goto 39, 3) := by decide +kernel
theorem dL_setup_352 : decode cL_setup 352 = .ok (.aload 4, 2) := by decide +kernel
theorem dL_setup_354 : decode cL_setup 354 = .ok (.iload 7, 2) := by decide +kernel
theorem dL_setup_356 : decode cL_setup 356 = .ok (.ifCond .ne 8, 3) := by decide +kernel
theorem dL_setup_359 : decode cL_setup 359 = .ok (.ldc 67, 2) := by decide +kernel
theorem dL_setup_361 : decode cL_setup 361 = .ok (.goto 5, 3) := by decide +kernel
theorem dL_setup_364 : decode cL_setup 364 = .ok (.ldc 69, 2) := by decide +kernel
theorem dL_setup_366 : decode cL_setup 366 = .ok (.invokevirtual 53, 3) := by decide +kernel
theorem dL_setup_369 : decode cL_setup 369 = .ok (.bipush 97, 2) := by decide +kernel
theorem dL_setup_371 : decode cL_setup 371 = .ok (.iload 9, 2) := by decide +kernel
theorem dL_setup_373 : decode cL_setup 373 = .ok (.iadd, 1) := by decide +kernel
theorem dL_setup_374 : decode cL_setup 374 = .ok (.i2c, 1) := by decide +kernel
theorem dL_setup_375 : decode cL_setup 375 = .ok (.invokevirtual 48, 3) := by decide +kernel
theorem dL_setup_378 : decode cL_setup 378 = .ok (.pop, 1) := by decide +kernel
theorem dL_setup_379 : decode cL_setup 379 = .ok (.iload 7, 2) := by decide +kernel
theorem dL_setup_381 : decode cL_setup 381 = .ok (.iconst 1, 1) := by decide +kernel
theorem dL_setup_382 : decode cL_setup 382 = .ok (.iload 9, 2) := by decide +kernel
theorem dL_setup_384 : decode cL_setup 384 = .ok (.ishl, 1) := by decide +kernel
theorem dL_setup_385 : decode cL_setup 385 = .ok (.ior, 1) := by decide +kernel
theorem dL_setup_386 : decode cL_setup 386 = .ok (.istore 7, 2) := by decide +kernel
theorem dL_setup_388 : decode cL_setup 388 = .ok (.iinc 8 1, 3) := by decide +kernel
theorem dL_setup_391 : decode cL_setup 391 = .ok (.goto (-93), 3) := by decide +kernel
theorem dL_setup_394 : decode cL_setup 394 = .ok (.aload 4, 2) := by decide +kernel
theorem dL_setup_396 : decode cL_setup 396 = .ok (.bipush 59, 2) := by decide +kernel
theorem dL_setup_398 : decode cL_setup 398 = .ok (.invokevirtual 48, 3) := by decide +kernel
theorem dL_setup_401 : decode cL_setup 401 = .ok (.pop, 1) := by decide +kernel
theorem dL_setup_402 : decode cL_setup 402 = .ok (.iinc 5 1, 3) := by decide +kernel
theorem dL_setup_405 : decode cL_setup 405 = .ok (.goto (-262), 3) := by decide +kernel
theorem dL_setup_408 : decode cL_setup 408 = .ok (.aload 4, 2) := by decide +kernel
theorem dL_setup_410 : decode cL_setup 410 = .ok (.invokevirtual 71, 3) := by decide +kernel
theorem dL_setup_413 : decode cL_setup 413 = .ok (.areturn, 1) := by decide +kernel
set_option maxRecDepth 20000 in
theorem ggL_act_X11_stepCount : GoodIn wsL_act wsX11_stepCount := goodIn_r _ [5, 6, 151, 152, 153, 154, 155, 156, 157, 158, 159, 160, 161, 162, 163, 164, 165, 166, 167, 168, 169, 170, 171, 172, 173, 174, 175, 176, 177, 178, 179, 180, 181, 182, 183, 184, 185, 186] rfl (by decide +kernel)
set_option maxRecDepth 20000 in
theorem gL_act_X11_stepCount : GoodIn wsL_act (wsV RL 75 RX11 yX11_stepCount wsX11_stepCount) := goodIn_app (goodIn_of _ (by decide +kernel)) ggL_act_X11_stepCount
set_option maxRecDepth 20000 in
theorem ggL_act_X11_status : GoodIn wsL_act wsX11_status := goodIn_ca (goodIn_r _ [10, 6, 11, 12, 13, 4, 14, 15, 16, 17, 18, 19, 20, 21, 22, 23, 24, 25, 26, 27, 28, 29, 151, 152, 153, 154, 155, 156, 157, 158, 159, 160, 161, 162, 163, 164, 165, 166, 167, 168, 169, 170, 171, 172, 173, 174, 175, 176, 177, 178, 179, 180, 181, 182, 183, 184, 185, 186, 187, 188, 189, 190, 191, 192, 193, 194, 195, 196, 197, 198, 199, 200, 201] rfl (by decide +kernel)) (goodIn_sub (fun _ h => List.mem_cons_of_mem _ (List.mem_append_left _ (List.mem_append_left _ (List.mem_append_right _ h)))) (by decide +kernel))
set_option maxRecDepth 20000 in
theorem gL_act_X11_status : GoodIn wsL_act (wsV RL 78 RX11 yX11_status wsX11_status) := goodIn_app (goodIn_of _ (by decide +kernel)) ggL_act_X11_status
set_option maxRecDepth 20000 in
theorem ggL_act_X11_stop : GoodIn wsL_act wsX11_stop := goodIn_ca (goodIn_ca (goodIn_r _ [33, 34, 35, 6, 36, 11, 12, 13, 4, 14, 15, 16, 17, 18, 19, 37, 28, 29, 38, 39, 40, 41, 42, 43, 44, 45, 46, 47, 48, 49, 50, 51, 52, 23, 53, 54, 55, 56, 57, 58, 59, 25, 26, 27, 60, 61, 62, 63, 64, 65, 66, 67, 68, 69, 70, 71, 72, 73, 151, 152, 153, 154, 155, 156, 157, 158, 159, 160, 161, 162, 163, 164, 165, 166, 187, 188, 189, 190, 191, 192, 193, 194, 195, 196, 197, 198, 199, 200, 201, 167, 168, 169, 170, 171, 172, 173, 174, 175, 176, 177, 178, 179, 180, 181, 182, 183, 184, 185, 186, 202, 203, 204] rfl (by decide +kernel)) (goodIn_sub (fun _ h => List.mem_cons_of_mem _ (List.mem_append_left _ (List.mem_append_right _ h))) (by decide +kernel))) (goodIn_sub (fun _ h => List.mem_cons_of_mem _ (List.mem_append_left _ (List.mem_append_left _ (List.mem_append_right _ h)))) (by decide +kernel))
set_option maxRecDepth 20000 in
theorem gL_act_X11_stop : GoodIn wsL_act (wsV RL 81 RX11 yX11_stop wsX11_stop) := goodIn_app (goodIn_of _ (by decide +kernel)) ggL_act_X11_stop
set_option maxRecDepth 20000 in
theorem ggL_act_X11_isTakenUp : GoodIn wsL_act wsX11_isTakenUp := goodIn_ca (goodIn_r _ [77, 6, 11, 12, 13, 4, 14, 15, 16, 17, 18, 19, 37, 28, 29, 78, 79, 80, 81, 82, 83, 84, 151, 152, 153, 154, 155, 156, 157, 158, 159, 160, 161, 162, 163, 164, 165, 166, 187, 188, 189, 190, 191, 192, 193, 194, 195, 196, 197, 198, 199, 200, 201, 167, 168, 169, 170, 171, 172, 173, 174, 175, 176, 177, 178, 179, 180, 181, 182, 183, 184, 185, 186] rfl (by decide +kernel)) (goodIn_sub (fun _ h => List.mem_cons_of_mem _ (List.mem_append_left _ (List.mem_append_left _ (List.mem_append_right _ h)))) (by decide +kernel))
set_option maxRecDepth 20000 in
theorem gL_act_X11_isTakenUp : GoodIn wsL_act (wsV RL 84 RX11 yX11_isTakenUp wsX11_isTakenUp) := goodIn_app (goodIn_of _ (by decide +kernel)) ggL_act_X11_isTakenUp
set_option maxRecDepth 20000 in
theorem ggL_act_X11_whyNotServed : GoodIn wsL_act wsX11_whyNotServed := goodIn_r _ [88, 6, 89, 90, 91, 81, 92, 84, 83, 93, 94, 95, 96, 97, 98, 99, 100, 101, 102, 28, 4, 29, 151, 152, 153, 154, 155, 156, 157, 158, 159, 160, 161, 162, 163, 164, 165, 166, 187, 188, 189, 190, 191, 192, 193, 194, 195, 196, 197, 198, 199, 200, 201, 167, 168, 169, 170, 171, 172, 173, 174, 175, 176, 177, 178, 179, 180, 181, 182, 183, 184, 185, 186] rfl (by decide +kernel)
set_option maxRecDepth 20000 in
theorem gL_act_X11_whyNotServed : GoodIn wsL_act (wsV RL 88 RX11 yX11_whyNotServed wsX11_whyNotServed) := goodIn_app (goodIn_of _ (by decide +kernel)) ggL_act_X11_whyNotServed
set_option maxRecDepth 20000 in
theorem ggL_act_X11_redo : GoodIn wsL_act wsX11_redo := goodIn_ca (goodIn_ca (goodIn_r _ [106, 34, 35, 6, 36, 11, 12, 13, 4, 14, 15, 16, 17, 18, 19, 107, 108, 109, 81, 110, 84, 28, 29, 111, 79, 80, 82, 83, 38, 39, 40, 41, 42, 43, 44, 45, 46, 47, 48, 49, 50, 51, 52, 23, 53, 54, 55, 56, 57, 58, 59, 25, 26, 27, 60, 61, 62, 63, 64, 65, 66, 67, 68, 69, 112, 113, 114, 115, 151, 152, 153, 154, 155, 156, 157, 158, 159, 160, 161, 162, 163, 164, 165, 166, 167, 168, 169, 170, 171, 172, 173, 174, 175, 176, 177, 178, 179, 180, 181, 182, 183, 184, 185, 186, 187, 188, 189, 190, 191, 192, 193, 194, 195, 196, 197, 198, 199, 200, 201, 202, 203, 204] rfl (by decide +kernel)) (goodIn_sub (fun _ h => List.mem_cons_of_mem _ (List.mem_append_left _ (List.mem_append_right _ h))) (by decide +kernel))) (goodIn_sub (fun _ h => List.mem_cons_of_mem _ (List.mem_append_left _ (List.mem_append_left _ (List.mem_append_right _ h)))) (by decide +kernel))
set_option maxRecDepth 20000 in
theorem gL_act_X11_redo : GoodIn wsL_act (wsV RL 91 RX11 yX11_redo wsX11_redo) := goodIn_app (goodIn_of _ (by decide +kernel)) ggL_act_X11_redo
set_option maxRecDepth 20000 in
theorem ggL_act_X11_setCooks : GoodIn wsL_act wsX11_setCooks := goodIn_ca (goodIn_r _ [119, 36, 6, 120, 121, 122, 4, 123, 124, 125, 126, 127, 128, 129, 17, 18, 19, 38, 39, 40, 41, 42, 43, 44, 45, 46, 47, 48, 49, 50, 51, 52, 23, 53, 54, 55, 56, 57, 58, 59, 25, 26, 27, 60, 61, 62, 63, 64, 65, 66, 67, 68, 69, 151, 152, 153, 154, 155, 156, 157, 158, 159, 160, 161, 162, 163, 164, 165, 166, 187, 188, 189, 190, 191, 192, 193, 194, 195, 196, 197, 198, 199, 200, 201, 202, 203, 204] rfl (by decide +kernel)) (goodIn_sub (fun _ h => List.mem_cons_of_mem _ (List.mem_append_right _ h)) (by decide +kernel))
set_option maxRecDepth 20000 in
theorem gL_act_X11_setCooks : GoodIn wsL_act (wsV RL 94 RX11 yX11_setCooks wsX11_setCooks) := goodIn_app (goodIn_of _ (by decide +kernel)) ggL_act_X11_setCooks
set_option maxRecDepth 20000 in
theorem ggL_act_X11_setDuration : GoodIn wsL_act wsX11_setDuration := goodIn_ca (goodIn_ca (goodIn_r _ [133, 124, 125, 36, 6, 11, 12, 13, 4, 14, 15, 16, 17, 18, 19, 134, 135, 136, 137, 38, 39, 40, 41, 42, 43, 44, 45, 46, 47, 48, 49, 50, 51, 52, 23, 53, 54, 55, 56, 57, 58, 59, 25, 26, 27, 60, 61, 62, 63, 64, 65, 66, 67, 68, 69, 151, 152, 153, 154, 155, 156, 157, 158, 159, 160, 161, 162, 163, 164, 165, 166, 187, 188, 189, 190, 191, 192, 193, 194, 195, 196, 197, 198, 199, 200, 201, 167, 168, 169, 170, 171, 172, 173, 174, 175, 176, 177, 178, 179, 180, 181, 182, 183, 184, 185, 186, 202, 203, 204] rfl (by decide +kernel)) (goodIn_sub (fun _ h => List.mem_cons_of_mem _ (List.mem_append_right _ h)) (by decide +kernel))) (goodIn_sub (fun _ h => List.mem_cons_of_mem _ (List.mem_append_left _ (List.mem_append_left _ (List.mem_append_right _ h)))) (by decide +kernel))
set_option maxRecDepth 20000 in
theorem gL_act_X11_setDuration : GoodIn wsL_act (wsV RL 97 RX11 yX11_setDuration wsX11_setDuration) := goodIn_app (goodIn_of _ (by decide +kernel)) ggL_act_X11_setDuration
set_option maxRecDepth 20000 in
theorem ggL_act_X11_addSalt : GoodIn wsL_act wsX11_addSalt := goodIn_ca (goodIn_ca (goodIn_r _ [141, 124, 125, 34, 35, 6, 36, 142, 143, 144, 4, 145, 17, 18, 19, 38, 39, 40, 41, 42, 43, 44, 45, 46, 47, 48, 49, 50, 51, 52, 23, 53, 54, 55, 56, 57, 58, 59, 25, 26, 27, 60, 61, 62, 63, 64, 65, 66, 67, 68, 69, 146, 100, 101, 81, 102, 84, 83, 28, 29, 151, 152, 153, 154, 155, 156, 157, 158, 159, 160, 161, 162, 163, 164, 165, 166, 187, 188, 189, 190, 191, 192, 193, 194, 195, 196, 197, 198, 199, 200, 201, 202, 203, 204, 167, 168, 169, 170, 171, 172, 173, 174, 175, 176, 177, 178, 179, 180, 181, 182, 183, 184, 185, 186] rfl (by decide +kernel)) (goodIn_sub (fun _ h => List.mem_cons_of_mem _ (List.mem_append_right _ h)) (by decide +kernel))) (goodIn_sub (fun _ h => List.mem_cons_of_mem _ (List.mem_append_left _ (List.mem_append_right _ h))) (by decide +kernel))
set_option maxRecDepth 20000 in
theorem gL_act_X11_addSalt : GoodIn wsL_act (wsV RL 101 RX11 yX11_addSalt wsX11_addSalt) := goodIn_app (goodIn_of _ (by decide +kernel)) ggL_act_X11_addSalt
set_option maxRecDepth 20000 in
theorem ggL_act_X11_serve : GoodIn wsL_act wsX11_serve := goodIn_ca (goodIn_r _ [150, 34, 35, 6, 36, 89, 90, 91, 81, 92, 84, 83, 93, 94, 95, 96, 97, 98, 99, 100, 101, 102, 28, 4, 29, 38, 39, 40, 41, 42, 43, 44, 45, 46, 47, 48, 49, 50, 51, 52, 23, 53, 54, 55, 56, 57, 58, 59, 25, 26, 27, 60, 61, 62, 63, 64, 65, 66, 67, 68, 69, 146, 151, 152, 153, 154, 155, 156, 157, 158, 159, 160, 161, 162, 163, 164, 165, 166, 187, 188, 189, 190, 191, 192, 193, 194, 195, 196, 197, 198, 199, 200, 201, 167, 168, 169, 170, 171, 172, 173, 174, 175, 176, 177, 178, 179, 180, 181, 182, 183, 184, 185, 186, 202, 203, 204] rfl (by decide +kernel)) (goodIn_sub (fun _ h => List.mem_cons_of_mem _ (List.mem_append_left _ (List.mem_append_right _ h))) (by decide +kernel))
set_option maxRecDepth 20000 in
theorem gL_act_X11_serve : GoodIn wsL_act (wsV RL 104 RX11 yX11_serve wsX11_serve) := goodIn_app (goodIn_of _ (by decide +kernel)) ggL_act_X11_serve
theorem dL_act_0 : decode cL_act 0 = .ok (.iload_n 1, 1) := by decide +kernel
theorem dL_act_1 : decode cL_act 1 = .ok (.bipush 16, 2) := by decide +kernel
theorem dL_act_3 : decode cL_act 3 = .ok (.idiv, 1) := by decide +kernel
theorem dL_act_4 : decode cL_act 4 = .ok (.aload_n 0, 1) := by decide +kernel
theorem dL_act_5 : decode cL_act 5 = .ok (.invokevirtual 75, 3) := by decide +kernel
theorem dL_act_8 : decode cL_act 8 = .ok (.irem, 1) := by decide +kernel
theorem dL_act_9 : decode cL_act 9 = .ok (.istore_n 2, 1) := by decide +kernel
theorem dL_act_10 : decode cL_act 10 = .ok (.iload_n 1, 1) := by decide +kernel
theorem dL_act_11 : decode cL_act 11 = .ok (.bipush 8, 2) := by decide +kernel
theorem dL_act_13 : decode cL_act 13 = .ok (.irem, 1) := by decide +kernel
theorem dL_act_14 : decode cL_act 14 = .ok (.tableswitch 188 0 5 #[38, 56, 90, 107, 126, 173], 38) := by decide +kernel
theorem dL_act_52 : decode cL_act 52 = .ok (.aload_n 0, 1) := by decide +kernel
theorem dL_act_53 : decode cL_act 53 = .ok (.iload_n 2, 1) := by decide +kernel
theorem dL_act_54 : decode cL_act 54 = .ok (.invokevirtual 78, 3) := by decide +kernel
theorem dL_act_57 : decode cL_act 57 = .ok (.iconst 1, 1) := by decide +kernel
theorem dL_act_58 : decode cL_act 58 = .ok (.if_icmp .ne 144, 3) := by decide +kernel
theorem dL_act_61 : decode cL_act 61 = .ok (.aload_n 0, 1) := by decide +kernel
theorem dL_act_62 : decode cL_act 62 = .ok (.iload_n 2, 1) := by decide +kernel
theorem dL_act_63 : decode cL_act 63 = .ok (.invokevirtual 81, 3) := by decide +kernel
theorem dL_act_66 : decode cL_act 66 = .ok (.pop, 1) := by decide +kernel
theorem dL_act_67 : decode cL_act 67 = .ok (.goto 135, 3) := by decide +kernel
theorem dL_act_70 : decode cL_act 70 = .ok (.aload_n 0, 1) := by decide +kernel
theorem dL_act_71 : decode cL_act 71 = .ok (.iload_n 2, 1) := by decide +kernel
theorem dL_act_72 : decode cL_act 72 = .ok (.invokevirtual 78, 3) := by decide +kernel
theorem dL_act_75 : decode cL_act 75 = .ok (.iconst 2, 1) := by decide +kernel
theorem dL_act_76 : decode cL_act 76 = .ok (.if_icmp .ne 126, 3) := by decide +kernel
theorem dL_act_79 : decode cL_act 79 = .ok (.aload_n 0, 1) := by decide +kernel
theorem dL_act_80 : decode cL_act 80 = .ok (.iload_n 2, 1) := by decide +kernel
theorem dL_act_81 : decode cL_act 81 = .ok (.invokevirtual 84, 3) := by decide +kernel
theorem dL_act_84 : decode cL_act 84 = .ok (.ifCond .ne 118, 3) := by decide +kernel
theorem dL_act_87 : decode cL_act 87 = .ok (.aload_n 0, 1) := by decide +kernel
theorem dL_act_88 : decode cL_act 88 = .ok (.invokevirtual 88, 3) := by decide +kernel
theorem dL_act_91 : decode cL_act 91 = .ok (.iconst 1, 1) := by decide +kernel
theorem dL_act_92 : decode cL_act 92 = .ok (.if_icmp .eq 110, 3) := by decide +kernel
theorem dL_act_95 : decode cL_act 95 = .ok (.aload_n 0, 1) := by decide +kernel
theorem dL_act_96 : decode cL_act 96 = .ok (.iload_n 2, 1) := by decide +kernel
theorem dL_act_97 : decode cL_act 97 = .ok (.invokevirtual 91, 3) := by decide +kernel
theorem dL_act_100 : decode cL_act 100 = .ok (.pop, 1) := by decide +kernel
theorem dL_act_101 : decode cL_act 101 = .ok (.goto 101, 3) := by decide +kernel
theorem dL_act_104 : decode cL_act 104 = .ok (.aload_n 0, 1) := by decide +kernel
theorem dL_act_105 : decode cL_act 105 = .ok (.iconst 1, 1) := by decide +kernel
theorem dL_act_106 : decode cL_act 106 = .ok (.iload_n 1, 1) := by decide +kernel
theorem dL_act_107 : decode cL_act 107 = .ok (.sipush 256, 3) := by decide +kernel
theorem dL_act_110 : decode cL_act 110 = .ok (.idiv, 1) := by decide +kernel
theorem dL_act_111 : decode cL_act 111 = .ok (.iconst 4, 1) := by decide +kernel
theorem dL_act_112 : decode cL_act 112 = .ok (.irem, 1) := by decide +kernel
theorem dL_act_113 : decode cL_act 113 = .ok (.iadd, 1) := by decide +kernel
theorem dL_act_114 : decode cL_act 114 = .ok (.invokevirtual 94, 3) := by decide +kernel
theorem dL_act_117 : decode cL_act 117 = .ok (.pop, 1) := by decide +kernel
theorem dL_act_118 : decode cL_act 118 = .ok (.goto 84, 3) := by decide +kernel
theorem dL_act_121 : decode cL_act 121 = .ok (.aload_n 0, 1) := by decide +kernel
theorem dL_act_122 : decode cL_act 122 = .ok (.iload_n 2, 1) := by decide +kernel
theorem dL_act_123 : decode cL_act 123 = .ok (.iconst 1, 1) := by decide +kernel
theorem dL_act_124 : decode cL_act 124 = .ok (.iload_n 1, 1) := by decide +kernel
theorem dL_act_125 : decode cL_act 125 = .ok (.sipush 256, 3) := by decide +kernel
theorem dL_act_128 : decode cL_act 128 = .ok (.idiv, 1) := by decide +kernel
theorem dL_act_129 : decode cL_act 129 = .ok (.bipush 8, 2) := by decide +kernel
theorem dL_act_131 : decode cL_act 131 = .ok (.irem, 1) := by decide +kernel
theorem dL_act_132 : decode cL_act 132 = .ok (.iadd, 1) := by decide +kernel
theorem dL_act_133 : decode cL_act 133 = .ok (.invokevirtual 97, 3) := by decide +kernel
theorem dL_act_136 : decode cL_act 136 = .ok (.pop, 1) := by decide +kernel
theorem dL_act_137 : decode cL_act 137 = .ok (.goto 65, 3) := by decide +kernel
theorem dL_act_140 : decode cL_act 140 = .ok (.aload_n 0, 1) := by decide +kernel
theorem dL_act_141 : decode cL_act 141 = .ok (.invokevirtual 88, 3) := by decide +kernel
theorem dL_act_144 : decode cL_act 144 = .ok (.iconst 1, 1) := by decide +kernel
theorem dL_act_145 : decode cL_act 145 = .ok (.if_icmp .eq 57, 3) := by decide +kernel
theorem dL_act_148 : decode cL_act 148 = .ok (.aload_n 0, 1) := by decide +kernel
theorem dL_act_149 : decode cL_act 149 = .ok (.iload_n 1, 1) := by decide +kernel
theorem dL_act_150 : decode cL_act 150 = .ok (.sipush 256, 3) := by decide +kernel
theorem dL_act_153 : decode cL_act 153 = .ok (.idiv, 1) := by decide +kernel
theorem dL_act_154 : decode cL_act 154 = .ok (.iconst 2, 1) := by decide +kernel
theorem dL_act_155 : decode cL_act 155 = .ok (.irem, 1) := by decide +kernel
theorem dL_act_156 : decode cL_act 156 = .ok (.ifCond .ne 15, 3) := by decide +kernel
theorem dL_act_159 : decode cL_act 159 = .ok (.iconst 1, 1) := by decide +kernel
theorem dL_act_160 : decode cL_act 160 = .ok (.iload_n 1, 1) := by decide +kernel
theorem dL_act_161 : decode cL_act 161 = .ok (.sipush 512, 3) := by decide +kernel
theorem dL_act_164 : decode cL_act 164 = .ok (.idiv, 1) := by decide +kernel
theorem dL_act_165 : decode cL_act 165 = .ok (.iconst 5, 1) := by decide +kernel
theorem dL_act_166 : decode cL_act 166 = .ok (.irem, 1) := by decide +kernel
theorem dL_act_167 : decode cL_act 167 = .ok (.iadd, 1) := by decide +kernel
theorem dL_act_168 : decode cL_act 168 = .ok (.goto 12, 3) := by decide +kernel
theorem dL_act_171 : decode cL_act 171 = .ok (.iconst (-1), 1) := by decide +kernel
theorem dL_act_172 : decode cL_act 172 = .ok (.iload_n 1, 1) := by decide +kernel
theorem dL_act_173 : decode cL_act 173 = .ok (.sipush 512, 3) := by decide +kernel
theorem dL_act_176 : decode cL_act 176 = .ok (.idiv, 1) := by decide +kernel
theorem dL_act_177 : decode cL_act 177 = .ok (.iconst 5, 1) := by decide +kernel
theorem dL_act_178 : decode cL_act 178 = .ok (.irem, 1) := by decide +kernel
theorem dL_act_179 : decode cL_act 179 = .ok (.isub, 1) := by decide +kernel
theorem dL_act_180 : decode cL_act 180 = .ok (.invokevirtual 101, 3) := by decide +kernel
theorem dL_act_183 : decode cL_act 183 = .ok (.pop, 1) := by decide +kernel
theorem dL_act_184 : decode cL_act 184 = .ok (.goto 18, 3) := by decide +kernel
theorem dL_act_187 : decode cL_act 187 = .ok (.aload_n 0, 1) := by decide +kernel
theorem dL_act_188 : decode cL_act 188 = .ok (.invokevirtual 88, 3) := by decide +kernel
theorem dL_act_191 : decode cL_act 191 = .ok (.ifCond .ne 11, 3) := by decide +kernel
theorem dL_act_194 : decode cL_act 194 = .ok (.aload_n 0, 1) := by decide +kernel
theorem dL_act_195 : decode cL_act 195 = .ok (.invokevirtual 104, 3) := by decide +kernel
theorem dL_act_198 : decode cL_act 198 = .ok (.pop, 1) := by decide +kernel
theorem dL_act_199 : decode cL_act 199 = .ok (.goto 3, 3) := by decide +kernel
theorem dL_act_202 : decode cL_act 202 = .ok (.return_, 1) := by decide +kernel
