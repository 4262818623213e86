set_option maxRecDepth 20000 in
theorem ggL_append_X11_append : GoodIn wsL_append wsX11_append := goodIn_ca (goodIn_r _ [6, 7, 8, 9, 10, 11, 12, 13, 14, 15, 16, 17, 18, 19, 20, 21, 22, 23, 24, 25, 26, 27, 28, 29, 30, 31, 32, 33] rfl (by decide +kernel)) (goodIn_sub (fun _ h => List.mem_cons_of_mem _ (List.mem_append_right _ h)) (by decide +kernel))
set_option maxRecDepth 20000 in
theorem gL_append_X11_append : GoodIn wsL_append (wsV RL 7 RX11 yX11_append wsX11_append) := goodIn_app (goodIn_of _ (by decide +kernel)) ggL_append_X11_append
theorem dL_append_0 : decode cL_append 0 = .ok (.aload 6, 2) := by decide +kernel
theorem dL_append_2 : decode cL_append 2 = .ok (.iconst 0, 1) := by decide +kernel
theorem dL_append_3 : decode cL_append 3 = .ok (.aload_n 0, 1) := by decide +kernel
theorem dL_append_4 : decode cL_append 4 = .ok (.iload_n 1, 1) := by decide +kernel
theorem dL_append_5 : decode cL_append 5 = .ok (.iload_n 2, 1) := by decide +kernel
theorem dL_append_6 : decode cL_append 6 = .ok (.iload_n 3, 1) := by decide +kernel
theorem dL_append_7 : decode cL_append 7 = .ok (.iload 4, 2) := by decide +kernel
theorem dL_append_9 : decode cL_append 9 = .ok (.iload 5, 2) := by decide +kernel
theorem dL_append_11 : decode cL_append 11 = .ok (.invokevirtual 7, 3) := by decide +kernel
theorem dL_append_14 : decode cL_append 14 = .ok (.i2l, 1) := by decide +kernel
theorem dL_append_15 : decode cL_append 15 = .ok (.lastore, 1) := by decide +kernel
theorem dL_append_16 : decode cL_append 16 = .ok (.goto 7, 3) := by decide +kernel
theorem dL_append_19 : decode cL_append 19 = .ok (.astore 7, 2) := by decide +kernel
theorem dL_append_21 : decode cL_append 21 = .ok (.iconst 1, 1) := by decide +kernel
theorem dL_append_22 : decode cL_append 22 = .ok (.ireturn, 1) := by decide +kernel
theorem dL_append_23 : decode cL_append 23 = .ok (.iconst 0, 1) := by decide +kernel
theorem dL_append_24 : decode cL_append 24 = .ok (.ireturn, 1) := by decide +kernel
set_option maxRecDepth 20000 in
theorem ggL_truncate_X11_truncate : GoodIn wsL_truncate wsX11_truncate := goodIn_ca (goodIn_r _ [6, 7, 8, 9, 10, 11, 5, 12, 13, 14, 15, 16, 17, 18, 19, 20, 21, 22, 23, 24, 25] rfl (by decide +kernel)) (goodIn_sub (fun _ h => List.mem_cons_of_mem _ (List.mem_append_right _ h)) (by decide +kernel))
set_option maxRecDepth 20000 in
theorem gL_truncate_X11_truncate : GoodIn wsL_truncate (wsV RL 15 RX11 yX11_truncate wsX11_truncate) := goodIn_app (goodIn_of _ (by decide +kernel)) ggL_truncate_X11_truncate
theorem dL_truncate_0 : decode cL_truncate 0 = .ok (.aload_n 2, 1) := by decide +kernel
theorem dL_truncate_1 : decode cL_truncate 1 = .ok (.iconst 0, 1) := by decide +kernel
theorem dL_truncate_2 : decode cL_truncate 2 = .ok (.aload_n 0, 1) := by decide +kernel
theorem dL_truncate_3 : decode cL_truncate 3 = .ok (.iload_n 1, 1) := by decide +kernel
theorem dL_truncate_4 : decode cL_truncate 4 = .ok (.invokevirtual 15, 3) := by decide +kernel
theorem dL_truncate_7 : decode cL_truncate 7 = .ok (.i2l, 1) := by decide +kernel
theorem dL_truncate_8 : decode cL_truncate 8 = .ok (.lastore, 1) := by decide +kernel
theorem dL_truncate_9 : decode cL_truncate 9 = .ok (.goto 6, 3) := by decide +kernel
theorem dL_truncate_12 : decode cL_truncate 12 = .ok (.astore_n 3, 1) := by decide +kernel
theorem dL_truncate_13 : decode cL_truncate 13 = .ok (.iconst 1, 1) := by decide +kernel
theorem dL_truncate_14 : decode cL_truncate 14 = .ok (.ireturn, 1) := by decide +kernel
theorem dL_truncate_15 : decode cL_truncate 15 = .ok (.iconst 0, 1) := by decide +kernel
theorem dL_truncate_16 : decode cL_truncate 16 = .ok (.ireturn, 1) := by decide +kernel
set_option maxRecDepth 20000 in
theorem ggL_load_X11_load : GoodIn wsL_load wsX11_load := goodIn_ca (goodIn_r _ [6, 7, 8, 9, 10, 11, 12, 13, 14, 15, 16, 17, 18, 19, 20, 21, 22, 23, 24, 25, 26, 27, 28, 29, 30, 31, 32, 33, 34, 35, 36, 37, 38, 39, 40, 41, 42, 43, 44, 45, 46, 47, 48, 49, 50, 51, 52, 53, 54, 5, 55, 56, 57, 58, 59, 60, 61, 62, 63, 64, 65, 66, 67, 68, 69, 70, 71, 72, 73, 74, 75, 76, 77, 78, 79, 80, 81, 82, 83, 84, 85, 86, 87, 88, 89, 90, 91, 92, 93, 94, 95, 96, 97, 98, 99, 100, 101, 102, 103, 104, 105, 106, 107, 108, 109, 110, 111, 112, 113, 114, 115, 116, 117, 118, 119, 120, 121, 122, 123, 124, 125, 126, 127, 128, 129, 130, 131, 132, 133, 134, 135, 136, 137, 138, 139, 140, 141, 142, 143, 144, 145, 146, 147, 148, 149, 150, 151, 152, 153, 154, 155, 156, 157, 158, 159, 160, 161, 162, 163, 164, 165, 166, 167, 168, 169, 170, 171, 172, 173, 174, 175, 176, 177, 178, 179, 180, 181, 182, 183, 184, 185, 186, 187, 188, 189, 190, 191, 192, 193, 194, 195, 196, 197, 198, 199, 200, 201, 202, 203, 204, 205, 206, 207, 208, 209, 210, 211, 212, 213, 214, 215, 216, 217, 218, 219, 220, 221, 222, 223, 224, 225, 226, 227, 228, 229, 230, 231, 232, 233, 234, 235, 236, 237, 238, 239, 240, 241, 242, 243, 244, 245, 246, 247, 248, 249, 250, 251, 252, 253, 254, 255, 256, 257, 258, 259, 260, 261, 262, 263, 264, 265, 266, 267, 268, 269, 270, 271, 272, 273, 274, 275, 276, 277, 278, 279, 280, 281, 282, 283, 284, 285, 286, 287, 288, 289, 290, 291, 292, 293, 294, 295, 296, 297] rfl (by decide +kernel)) (goodIn_sub (fun _ h => List.mem_cons_of_mem _ (List.mem_append_right _ h)) (by decide +kernel))
set_option maxRecDepth 20000 in
theorem gL_load_X11_load : GoodIn wsL_load (wsV RL 21 RX11 yX11_load wsX11_load) := goodIn_app (goodIn_of _ (by decide +kernel)) ggL_load_X11_load
theorem dL_load_0 : decode cL_load 0 = .ok (.aload_n 1, 1) := by decide +kernel
theorem dL_load_1 : decode cL_load 1 = .ok (.iconst 0, 1) := by decide +kernel
theorem dL_load_2 : decode cL_load 2 = .ok (.aload_n 0, 1) := by decide +kernel
theorem dL_load_3 : decode cL_load 3 = .ok (.invokevirtual 21, 3) := by decide +kernel
theorem dL_load_6 : decode cL_load 6 = .ok (.i2l, 1) := by decide +kernel
theorem dL_load_7 : decode cL_load 7 = .ok (.lastore, 1) := by decide +kernel
theorem dL_load_8 : decode cL_load 8 = .ok (.goto 6, 3) := by decide +kernel
theorem dL_load_11 : decode cL_load 11 = .ok (.astore_n 2, 1) := by decide +kernel
theorem dL_load_12 : decode cL_load 12 = .ok (.iconst 1, 1) := by decide +kernel
theorem dL_load_13 : decode cL_load 13 = .ok (.ireturn, 1) := by decide +kernel
theorem dL_load_14 : decode cL_load 14 = .ok (.iconst 0, 1) := by decide +kernel
theorem dL_load_15 : decode cL_load 15 = .ok (.ireturn, 1) := by decide +kernel
set_option maxRecDepth 20000 in
theorem ggL_countWithStatus_X11_countWithStatus : GoodIn wsL_countWithStatus wsX11_countWithStatus := goodIn_ca (goodIn_r _ [6, 7, 8, 9, 10, 11, 5, 12, 13, 14, 15, 16, 17, 18, 19, 20, 21, 22, 23, 24, 25, 26, 27, 28, 29, 30, 31, 32, 33, 34, 35, 36, 37, 38, 39, 40, 41, 42, 43, 44, 45, 46, 47, 48, 49, 50, 51, 52, 53, 54, 55, 56, 57, 58, 59, 60, 61, 62, 63, 64, 65, 66, 67, 68, 69, 70, 71, 72, 73] rfl (by decide +kernel)) (goodIn_sub (fun _ h => List.mem_cons_of_mem _ (List.mem_append_right _ h)) (by decide +kernel))
set_option maxRecDepth 20000 in
theorem gL_countWithStatus_X11_countWithStatus : GoodIn wsL_countWithStatus (wsV RL 25 RX11 yX11_countWithStatus wsX11_countWithStatus) := goodIn_app (goodIn_of _ (by decide +kernel)) ggL_countWithStatus_X11_countWithStatus
theorem dL_countWithStatus_0 : decode cL_countWithStatus 0 = .ok (.aload_n 2, 1) := by decide +kernel
theorem dL_countWithStatus_1 : decode cL_countWithStatus 1 = .ok (.iconst 0, 1) := by decide +kernel
theorem dL_countWithStatus_2 : decode cL_countWithStatus 2 = .ok (.aload_n 0, 1) := by decide +kernel
theorem dL_countWithStatus_3 : decode cL_countWithStatus 3 = .ok (.iload_n 1, 1) := by decide +kernel
theorem dL_countWithStatus_4 : decode cL_countWithStatus 4 = .ok (.invokevirtual 25, 3) := by decide +kernel
theorem dL_countWithStatus_7 : decode cL_countWithStatus 7 = .ok (.i2l, 1) := by decide +kernel
theorem dL_countWithStatus_8 : decode cL_countWithStatus 8 = .ok (.lastore, 1) := by decide +kernel
theorem dL_countWithStatus_9 : decode cL_countWithStatus 9 = .ok (.goto 6, 3) := by decide +kernel
theorem dL_countWithStatus_12 : decode cL_countWithStatus 12 = .ok (.astore_n 3, 1) := by decide +kernel
theorem dL_countWithStatus_13 : decode cL_countWithStatus 13 = .ok (.iconst 1, 1) := by decide +kernel
theorem dL_countWithStatus_14 : decode cL_countWithStatus 14 = .ok (.ireturn, 1) := by decide +kernel
theorem dL_countWithStatus_15 : decode cL_countWithStatus 15 = .ok (.iconst 0, 1) := by decide +kernel
theorem dL_countWithStatus_16 : decode cL_countWithStatus 16 = .ok (.ireturn, 1) := by decide +kernel
set_option maxRecDepth 20000 in
theorem ggL_panCapacity_X11_panCapacity : GoodIn wsL_panCapacity wsX11_panCapacity := goodIn_ca (goodIn_r _ [6, 7, 8, 9, 10, 5, 11, 12, 13, 14, 15, 16, 17, 18, 19, 20, 21, 22, 23, 24, 25, 26, 27, 28, 29, 30, 31, 32, 33, 34, 35, 36, 37, 38, 39, 40, 41, 42, 43, 44, 45, 46, 47, 48, 49, 50, 51, 52] rfl (by decide +kernel)) (goodIn_sub (fun _ h => List.mem_cons_of_mem _ (List.mem_append_right _ h)) (by decide +kernel))
set_option maxRecDepth 20000 in
theorem gL_panCapacity_X11_panCapacity : GoodIn wsL_panCapacity (wsV RL 28 RX11 yX11_panCapacity wsX11_panCapacity) := goodIn_app (goodIn_of _ (by decide +kernel)) ggL_panCapacity_X11_panCapacity
theorem dL_panCapacity_0 : decode cL_panCapacity 0 = .ok (.aload_n 2, 1) := by decide +kernel
theorem dL_panCapacity_1 : decode cL_panCapacity 1 = .ok (.iconst 0, 1) := by decide +kernel
theorem dL_panCapacity_2 : decode cL_panCapacity 2 = .ok (.aload_n 0, 1) := by decide +kernel
theorem dL_panCapacity_3 : decode cL_panCapacity 3 = .ok (.iload_n 1, 1) := by decide +kernel
theorem dL_panCapacity_4 : decode cL_panCapacity 4 = .ok (.invokevirtual 28, 3) := by decide +kernel
theorem dL_panCapacity_7 : decode cL_panCapacity 7 = .ok (.i2l, 1) := by decide +kernel
theorem dL_panCapacity_8 : decode cL_panCapacity 8 = .ok (.lastore, 1) := by decide +kernel
theorem dL_panCapacity_9 : decode cL_panCapacity 9 = .ok (.goto 6, 3) := by decide +kernel
theorem dL_panCapacity_12 : decode cL_panCapacity 12 = .ok (.astore_n 3, 1) := by decide +kernel
theorem dL_panCapacity_13 : decode cL_panCapacity 13 = .ok (.iconst 1, 1) := by decide +kernel
theorem dL_panCapacity_14 : decode cL_panCapacity 14 = .ok (.ireturn, 1) := by decide +kernel
theorem dL_panCapacity_15 : decode cL_panCapacity 15 = .ok (.iconst 0, 1) := by decide +kernel
theorem dL_panCapacity_16 : decode cL_panCapacity 16 = .ok (.ireturn, 1) := by decide +kernel
set_option maxRecDepth 20000 in
theorem ggL_pansInUse_X11_pansInUse : GoodIn wsL_pansInUse wsX11_pansInUse := goodIn_ca (goodIn_r _ [6, 7, 8, 9, 10, 5, 11, 12, 13, 14, 15, 16, 17, 18, 19, 20, 21, 22, 23, 24, 25, 26, 27, 28, 29, 30, 31, 32, 33, 34, 35, 36, 37, 38, 39, 40, 41, 42, 43, 44, 45, 46, 47, 48, 49, 50, 51, 52, 53, 54, 55, 56, 57, 58, 59, 60, 61, 62, 63, 64, 65, 66, 67, 68, 69, 70, 71, 72, 73, 74, 75, 76, 77, 78, 79, 80, 81] rfl (by decide +kernel)) (goodIn_sub (fun _ h => List.mem_cons_of_mem _ (List.mem_append_right _ h)) (by decide +kernel))
set_option maxRecDepth 20000 in
theorem gL_pansInUse_X11_pansInUse : GoodIn wsL_pansInUse (wsV RL 33 RX11 yX11_pansInUse wsX11_pansInUse) := goodIn_app (goodIn_of _ (by decide +kernel)) ggL_pansInUse_X11_pansInUse
theorem dL_pansInUse_0 : decode cL_pansInUse 0 = .ok (.aload_n 2, 1) := by decide +kernel
theorem dL_pansInUse_1 : decode cL_pansInUse 1 = .ok (.iconst 0, 1) := by decide +kernel
theorem dL_pansInUse_2 : decode cL_pansInUse 2 = .ok (.aload_n 0, 1) := by decide +kernel
theorem dL_pansInUse_3 : decode cL_pansInUse 3 = .ok (.iload_n 1, 1) := by decide +kernel
theorem dL_pansInUse_4 : decode cL_pansInUse 4 = .ok (.invokevirtual 33, 3) := by decide +kernel
theorem dL_pansInUse_7 : decode cL_pansInUse 7 = .ok (.i2l, 1) := by decide +kernel
theorem dL_pansInUse_8 : decode cL_pansInUse 8 = .ok (.lastore, 1) := by decide +kernel
theorem dL_pansInUse_9 : decode cL_pansInUse 9 = .ok (.goto 6, 3) := by decide +kernel
theorem dL_pansInUse_12 : decode cL_pansInUse 12 = .ok (.astore_n 3, 1) := by decide +kernel
theorem dL_pansInUse_13 : decode cL_pansInUse 13 = .ok (.iconst 1, 1) := by decide +kernel
theorem dL_pansInUse_14 : decode cL_pansInUse 14 = .ok (.ireturn, 1) := by decide +kernel
theorem dL_pansInUse_15 : decode cL_pansInUse 15 = .ok (.iconst 0, 1) := by decide +kernel
theorem dL_pansInUse_16 : decode cL_pansInUse 16 = .ok (.ireturn, 1) := by decide +kernel
set_option maxRecDepth 20000 in
theorem ggL_duration_X11_duration : GoodIn wsL_duration wsX11_duration := goodIn_ca (goodIn_r _ [6, 7, 8, 9, 10, 5, 11, 12, 13, 14, 15, 16, 17, 18, 19, 20, 21, 22, 23, 24, 25, 26, 27, 28, 29, 30, 31, 32, 33, 34, 35, 36, 37, 38, 39, 40, 41, 42, 43, 44, 45, 46, 47, 48, 49, 50, 51, 52, 53, 54, 55, 56, 57, 58, 59, 60, 61, 62, 63, 64, 65, 66, 67] rfl (by decide +kernel)) (goodIn_sub (fun _ h => List.mem_cons_of_mem _ (List.mem_append_right _ h)) (by decide +kernel))
set_option maxRecDepth 20000 in
theorem gL_duration_X11_duration : GoodIn wsL_duration (wsV RL 36 RX11 yX11_duration wsX11_duration) := goodIn_app (goodIn_of _ (by decide +kernel)) ggL_duration_X11_duration
theorem dL_duration_0 : decode cL_duration 0 = .ok (.aload_n 2, 1) := by decide +kernel
theorem dL_duration_1 : decode cL_duration 1 = .ok (.iconst 0, 1) := by decide +kernel
theorem dL_duration_2 : decode cL_duration 2 = .ok (.aload_n 0, 1) := by decide +kernel
theorem dL_duration_3 : decode cL_duration 3 = .ok (.iload_n 1, 1) := by decide +kernel
theorem dL_duration_4 : decode cL_duration 4 = .ok (.invokevirtual 36, 3) := by decide +kernel
theorem dL_duration_7 : decode cL_duration 7 = .ok (.i2l, 1) := by decide +kernel
theorem dL_duration_8 : decode cL_duration 8 = .ok (.lastore, 1) := by decide +kernel
theorem dL_duration_9 : decode cL_duration 9 = .ok (.goto 6, 3) := by decide +kernel
theorem dL_duration_12 : decode cL_duration 12 = .ok (.astore_n 3, 1) := by decide +kernel
theorem dL_duration_13 : decode cL_duration 13 = .ok (.iconst 1, 1) := by decide +kernel
theorem dL_duration_14 : decode cL_duration 14 = .ok (.ireturn, 1) := by decide +kernel
theorem dL_duration_15 : decode cL_duration 15 = .ok (.iconst 0, 1) := by decide +kernel
theorem dL_duration_16 : decode cL_duration 16 = .ok (.ireturn, 1) := by decide +kernel
set_option maxRecDepth 20000 in
theorem ggL_stepTaste_X11_stepTaste : GoodIn wsL_stepTaste wsX11_stepTaste := goodIn_ca (goodIn_r _ [6, 7, 8, 9, 10, 5, 11, 12, 13, 14, 15, 16, 17, 18, 19, 20, 21, 22, 23, 24, 25, 26, 27, 28, 29, 30, 31, 32, 33, 34, 35, 36, 37, 38, 39, 40, 41, 42, 43, 44, 45, 46, 47, 48, 49, 50, 51, 52] rfl (by decide +kernel)) (goodIn_sub (fun _ h => List.mem_cons_of_mem _ (List.mem_append_right _ h)) (by decide +kernel))
set_option maxRecDepth 20000 in
theorem gL_stepTaste_X11_stepTaste : GoodIn wsL_stepTaste (wsV RL 39 RX11 yX11_stepTaste wsX11_stepTaste) := goodIn_app (goodIn_of _ (by decide +kernel)) ggL_stepTaste_X11_stepTaste
theorem dL_stepTaste_0 : decode cL_stepTaste 0 = .ok (.aload_n 2, 1) := by decide +kernel
theorem dL_stepTaste_1 : decode cL_stepTaste 1 = .ok (.iconst 0, 1) := by decide +kernel
theorem dL_stepTaste_2 : decode cL_stepTaste 2 = .ok (.aload_n 0, 1) := by decide +kernel
theorem dL_stepTaste_3 : decode cL_stepTaste 3 = .ok (.iload_n 1, 1) := by decide +kernel
theorem dL_stepTaste_4 : decode cL_stepTaste 4 = .ok (.invokevirtual 39, 3) := by decide +kernel
theorem dL_stepTaste_7 : decode cL_stepTaste 7 = .ok (.i2l, 1) := by decide +kernel
theorem dL_stepTaste_8 : decode cL_stepTaste 8 = .ok (.lastore, 1) := by decide +kernel
theorem dL_stepTaste_9 : decode cL_stepTaste 9 = .ok (.goto 6, 3) := by decide +kernel
theorem dL_stepTaste_12 : decode cL_stepTaste 12 = .ok (.astore_n 3, 1) := by decide +kernel
theorem dL_stepTaste_13 : decode cL_stepTaste 13 = .ok (.iconst 1, 1) := by decide +kernel
theorem dL_stepTaste_14 : decode cL_stepTaste 14 = .ok (.ireturn, 1) := by decide +kernel
theorem dL_stepTaste_15 : decode cL_stepTaste 15 = .ok (.iconst 0, 1) := by decide +kernel
theorem dL_stepTaste_16 : decode cL_stepTaste 16 = .ok (.ireturn, 1) := by decide +kernel
set_option maxRecDepth 20000 in
theorem ggL_panType_X11_panType : GoodIn wsL_panType wsX11_panType := goodIn_ca (goodIn_r _ [6, 7, 8, 9, 10, 5, 11, 12, 13, 14, 15, 16, 17, 18, 19, 20, 21, 22, 23, 24, 25, 26, 27, 28, 29, 30, 31, 32, 33, 34, 35, 36, 37, 38, 39, 40, 41, 42, 43, 44, 45, 46, 47, 48, 49, 50, 51, 52] rfl (by decide +kernel)) (goodIn_sub (fun _ h => List.mem_cons_of_mem _ (List.mem_append_right _ h)) (by decide +kernel))
set_option maxRecDepth 20000 in
theorem gL_panType_X11_panType : GoodIn wsL_panType (wsV RL 42 RX11 yX11_panType wsX11_panType) := goodIn_app (goodIn_of _ (by decide +kernel)) ggL_panType_X11_panType
theorem dL_panType_0 : decode cL_panType 0 = .ok (.aload_n 2, 1) := by decide +kernel
theorem dL_panType_1 : decode cL_panType 1 = .ok (.iconst 0, 1) := by decide +kernel
theorem dL_panType_2 : decode cL_panType 2 = .ok (.aload_n 0, 1) := by decide +kernel
theorem dL_panType_3 : decode cL_panType 3 = .ok (.iload_n 1, 1) := by decide +kernel
theorem dL_panType_4 : decode cL_panType 4 = .ok (.invokevirtual 42, 3) := by decide +kernel
theorem dL_panType_7 : decode cL_panType 7 = .ok (.i2l, 1) := by decide +kernel
theorem dL_panType_8 : decode cL_panType 8 = .ok (.lastore, 1) := by decide +kernel
theorem dL_panType_9 : decode cL_panType 9 = .ok (.goto 6, 3) := by decide +kernel
theorem dL_panType_12 : decode cL_panType 12 = .ok (.astore_n 3, 1) := by decide +kernel
theorem dL_panType_13 : decode cL_panType 13 = .ok (.iconst 1, 1) := by decide +kernel
theorem dL_panType_14 : decode cL_panType 14 = .ok (.ireturn, 1) := by decide +kernel
theorem dL_panType_15 : decode cL_panType 15 = .ok (.iconst 0, 1) := by decide +kernel
theorem dL_panType_16 : decode cL_panType 16 = .ok (.ireturn, 1) := by decide +kernel
set_option maxRecDepth 20000 in
theorem ggL_isHot_X11_isHot : GoodIn wsL_isHot wsX11_isHot := goodIn_ca (goodIn_r _ [6, 7, 8, 9, 10, 5, 11, 12, 13, 14, 15, 16, 17, 18, 19, 20, 21, 22, 23, 24, 25, 26, 27, 28, 29, 30, 31, 32, 33, 34, 35, 36, 37, 38, 39, 40, 41, 42, 43, 44, 45, 46, 47, 48, 49, 50, 51, 52, 53, 54, 55] rfl (by decide +kernel)) (goodIn_sub (fun _ h => List.mem_cons_of_mem _ (List.mem_append_right _ h)) (by decide +kernel))
set_option maxRecDepth 20000 in
theorem gL_isHot_X11_isHot : GoodIn wsL_isHot (wsV RL 45 RX11 yX11_isHot wsX11_isHot) := goodIn_app (goodIn_of _ (by decide +kernel)) ggL_isHot_X11_isHot
theorem dL_isHot_0 : decode cL_isHot 0 = .ok (.aload_n 2, 1) := by decide +kernel
theorem dL_isHot_1 : decode cL_isHot 1 = .ok (.iconst 0, 1) := by decide +kernel
theorem dL_isHot_2 : decode cL_isHot 2 = .ok (.aload_n 0, 1) := by decide +kernel
theorem dL_isHot_3 : decode cL_isHot 3 = .ok (.iload_n 1, 1) := by decide +kernel
theorem dL_isHot_4 : decode cL_isHot 4 = .ok (.invokevirtual 45, 3) := by decide +kernel
theorem dL_isHot_7 : decode cL_isHot 7 = .ok (.ifCond .eq 7, 3) := by decide +kernel
theorem dL_isHot_10 : decode cL_isHot 10 = .ok (.lconst 1, 1) := by decide +kernel
theorem dL_isHot_11 : decode cL_isHot 11 = .ok (.goto 4, 3) := by decide +kernel
theorem dL_isHot_14 : decode cL_isHot 14 = .ok (.lconst 0, 1) := by decide +kernel
theorem dL_isHot_15 : decode cL_isHot 15 = .ok (.lastore, 1) := by decide +kernel
theorem dL_isHot_16 : decode cL_isHot 16 = .ok (.goto 6, 3) := by decide +kernel
theorem dL_isHot_19 : decode cL_isHot 19 = .ok (.astore_n 3, 1) := by decide +kernel
theorem dL_isHot_20 : decode cL_isHot 20 = .ok (.iconst 1, 1) := by decide +kernel
theorem dL_isHot_21 : decode cL_isHot 21 = .ok (.ireturn, 1) := by decide +kernel
theorem dL_isHot_22 : decode cL_isHot 22 = .ok (.iconst 0, 1) := by decide +kernel
theorem dL_isHot_23 : decode cL_isHot 23 = .ok (.ireturn, 1) := by decide +kernel
set_option maxRecDepth 20000 in
theorem ggL_isUnattended_X11_isUnattended : GoodIn wsL_isUnattended wsX11_isUnattended := goodIn_ca (goodIn_r _ [6, 7, 8, 9, 10, 5, 11, 12, 13, 14, 15, 16, 17, 18, 19, 20, 21, 22, 23, 24, 25, 26, 27, 28, 29, 30, 31, 32, 33, 34, 35, 36, 37, 38, 39, 40, 41, 42, 43, 44, 45, 46, 47, 48, 49, 50, 51, 52, 53, 54, 55] rfl (by decide +kernel)) (goodIn_sub (fun _ h => List.mem_cons_of_mem _ (List.mem_append_right _ h)) (by decide +kernel))
set_option maxRecDepth 20000 in
theorem gL_isUnattended_X11_isUnattended : GoodIn wsL_isUnattended (wsV RL 49 RX11 yX11_isUnattended wsX11_isUnattended) := goodIn_app (goodIn_of _ (by decide +kernel)) ggL_isUnattended_X11_isUnattended
theorem dL_isUnattended_0 : decode cL_isUnattended 0 = .ok (.aload_n 2, 1) := by decide +kernel
theorem dL_isUnattended_1 : decode cL_isUnattended 1 = .ok (.iconst 0, 1) := by decide +kernel
theorem dL_isUnattended_2 : decode cL_isUnattended 2 = .ok (.aload_n 0, 1) := by decide +kernel
theorem dL_isUnattended_3 : decode cL_isUnattended 3 = .ok (.iload_n 1, 1) := by decide +kernel
theorem dL_isUnattended_4 : decode cL_isUnattended 4 = .ok (.invokevirtual 49, 3) := by decide +kernel
theorem dL_isUnattended_7 : decode cL_isUnattended 7 = .ok (.ifCond .eq 7, 3) := by decide +kernel
theorem dL_isUnattended_10 : decode cL_isUnattended 10 = .ok (.lconst 1, 1) := by decide +kernel
theorem dL_isUnattended_11 : decode cL_isUnattended 11 = .ok (.goto 4, 3) := by decide +kernel
theorem dL_isUnattended_14 : decode cL_isUnattended 14 = .ok (.lconst 0, 1) := by decide +kernel
theorem dL_isUnattended_15 : decode cL_isUnattended 15 = .ok (.lastore, 1) := by decide +kernel
theorem dL_isUnattended_16 : decode cL_isUnattended 16 = .ok (.goto 6, 3) := by decide +kernel
theorem dL_isUnattended_19 : decode cL_isUnattended 19 = .ok (.astore_n 3, 1) := by decide +kernel
theorem dL_isUnattended_20 : decode cL_isUnattended 20 = .ok (.iconst 1, 1) := by decide +kernel
theorem dL_isUnattended_21 : decode cL_isUnattended 21 = .ok (.ireturn, 1) := by decide +kernel
theorem dL_isUnattended_22 : decode cL_isUnattended 22 = .ok (.iconst 0, 1) := by decide +kernel
theorem dL_isUnattended_23 : decode cL_isUnattended 23 = .ok (.ireturn, 1) := by decide +kernel
set_option maxRecDepth 20000 in
theorem ggL_predecessor_X11_predecessor : GoodIn wsL_predecessor wsX11_predecessor := goodIn_ca (goodIn_r _ [6, 7, 8, 9, 10, 5, 11, 12, 13, 14, 15, 16, 17, 18, 19, 20, 21, 22, 23, 24, 25, 26, 27, 28, 29, 30, 31, 32, 33, 34, 35, 36, 37, 38, 39, 40, 41, 42, 43, 44, 45, 46, 47, 48, 49, 50, 51, 52] rfl (by decide +kernel)) (goodIn_sub (fun _ h => List.mem_cons_of_mem _ (List.mem_append_right _ h)) (by decide +kernel))
set_option maxRecDepth 20000 in
theorem gL_predecessor_X11_predecessor : GoodIn wsL_predecessor (wsV RL 52 RX11 yX11_predecessor wsX11_predecessor) := goodIn_app (goodIn_of _ (by decide +kernel)) ggL_predecessor_X11_predecessor
theorem dL_predecessor_0 : decode cL_predecessor 0 = .ok (.aload_n 3, 1) := by decide +kernel
theorem dL_predecessor_1 : decode cL_predecessor 1 = .ok (.iconst 0, 1) := by decide +kernel
theorem dL_predecessor_2 : decode cL_predecessor 2 = .ok (.aload_n 0, 1) := by decide +kernel
theorem dL_predecessor_3 : decode cL_predecessor 3 = .ok (.iload_n 1, 1) := by decide +kernel
theorem dL_predecessor_4 : decode cL_predecessor 4 = .ok (.iload_n 2, 1) := by decide +kernel
theorem dL_predecessor_5 : decode cL_predecessor 5 = .ok (.invokevirtual 52, 3) := by decide +kernel
theorem dL_predecessor_8 : decode cL_predecessor 8 = .ok (.i2l, 1) := by decide +kernel
theorem dL_predecessor_9 : decode cL_predecessor 9 = .ok (.lastore, 1) := by decide +kernel
theorem dL_predecessor_10 : decode cL_predecessor 10 = .ok (.goto 7, 3) := by decide +kernel
theorem dL_predecessor_13 : decode cL_predecessor 13 = .ok (.astore 4, 2) := by decide +kernel
theorem dL_predecessor_15 : decode cL_predecessor 15 = .ok (.iconst 1, 1) := by decide +kernel
theorem dL_predecessor_16 : decode cL_predecessor 16 = .ok (.ireturn, 1) := by decide +kernel
theorem dL_predecessor_17 : decode cL_predecessor 17 = .ok (.iconst 0, 1) := by decide +kernel
theorem dL_predecessor_18 : decode cL_predecessor 18 = .ok (.ireturn, 1) := by decide +kernel
set_option maxRecDepth 20000 in
theorem ggL_successorCount_X11_successorCount : GoodIn wsL_successorCount wsX11_successorCount := goodIn_ca (goodIn_r _ [6, 7, 8, 9, 10, 5, 11, 12, 13, 14, 15, 16, 17, 18, 19, 20, 21, 22, 23, 24, 25, 26, 27, 28, 29, 30, 31, 32, 33, 34, 35, 36, 37, 38, 39, 40, 41, 42, 43, 44, 45, 46, 47, 48, 49, 50, 51, 52, 53, 54, 55, 56, 57, 58, 59] rfl (by decide +kernel)) (goodIn_sub (fun _ h => List.mem_cons_of_mem _ (List.mem_append_right _ h)) (by decide +kernel))
set_option maxRecDepth 20000 in
theorem gL_successorCount_X11_successorCount : GoodIn wsL_successorCount (wsV RL 56 RX11 yX11_successorCount wsX11_successorCount) := goodIn_app (goodIn_of _ (by decide +kernel)) ggL_successorCount_X11_successorCount
theorem dL_successorCount_0 : decode cL_successorCount 0 = .ok (.aload_n 2, 1) := by decide +kernel
theorem dL_successorCount_1 : decode cL_successorCount 1 = .ok (.iconst 0, 1) := by decide +kernel
theorem dL_successorCount_2 : decode cL_successorCount 2 = .ok (.aload_n 0, 1) := by decide +kernel
theorem dL_successorCount_3 : decode cL_successorCount 3 = .ok (.iload_n 1, 1) := by decide +kernel
theorem dL_successorCount_4 : decode cL_successorCount 4 = .ok (.invokevirtual 56, 3) := by decide +kernel
theorem dL_successorCount_7 : decode cL_successorCount 7 = .ok (.i2l, 1) := by decide +kernel
theorem dL_successorCount_8 : decode cL_successorCount 8 = .ok (.lastore, 1) := by decide +kernel
theorem dL_successorCount_9 : decode cL_successorCount 9 = .ok (.goto 6, 3) := by decide +kernel
theorem dL_successorCount_12 : decode cL_successorCount 12 = .ok (.astore_n 3, 1) := by decide +kernel
theorem dL_successorCount_13 : decode cL_successorCount 13 = .ok (.iconst 1, 1) := by decide +kernel
theorem dL_successorCount_14 : decode cL_successorCount 14 = .ok (.ireturn, 1) := by decide +kernel
theorem dL_successorCount_15 : decode cL_successorCount 15 = .ok (.iconst 0, 1) := by decide +kernel
theorem dL_successorCount_16 : decode cL_successorCount 16 = .ok (.ireturn, 1) := by decide +kernel
set_option maxRecDepth 20000 in
theorem ggL_dependsOn_X11_dependsOn : GoodIn wsL_dependsOn wsX11_dependsOn := goodIn_ca (goodIn_r _ [6, 7, 8, 9, 10, 5, 11, 12, 13, 14, 15, 16, 17, 18, 19, 20, 21, 22, 23, 24, 25, 26, 27, 28, 29, 30, 31, 32, 33, 34, 35, 36, 37, 38, 39, 40, 41, 42, 43, 44, 45, 46, 47, 48, 49, 50, 51, 52, 53, 54, 55, 56, 57, 58, 59, 60, 61] rfl (by decide +kernel)) (goodIn_sub (fun _ h => List.mem_cons_of_mem _ (List.mem_append_right _ h)) (by decide +kernel))
set_option maxRecDepth 20000 in
theorem gL_dependsOn_X11_dependsOn : GoodIn wsL_dependsOn (wsV RL 59 RX11 yX11_dependsOn wsX11_dependsOn) := goodIn_app (goodIn_of _ (by decide +kernel)) ggL_dependsOn_X11_dependsOn
theorem dL_dependsOn_0 : decode cL_dependsOn 0 = .ok (.aload_n 3, 1) := by decide +kernel
theorem dL_dependsOn_1 : decode cL_dependsOn 1 = .ok (.iconst 0, 1) := by decide +kernel
theorem dL_dependsOn_2 : decode cL_dependsOn 2 = .ok (.aload_n 0, 1) := by decide +kernel
theorem dL_dependsOn_3 : decode cL_dependsOn 3 = .ok (.iload_n 1, 1) := by decide +kernel
theorem dL_dependsOn_4 : decode cL_dependsOn 4 = .ok (.iload_n 2, 1) := by decide +kernel
theorem dL_dependsOn_5 : decode cL_dependsOn 5 = .ok (.invokevirtual 59, 3) := by decide +kernel
theorem dL_dependsOn_8 : decode cL_dependsOn 8 = .ok (.ifCond .eq 7, 3) := by decide +kernel
theorem dL_dependsOn_11 : decode cL_dependsOn 11 = .ok (.lconst 1, 1) := by decide +kernel
theorem dL_dependsOn_12 : decode cL_dependsOn 12 = .ok (.goto 4, 3) := by decide +kernel
theorem dL_dependsOn_15 : decode cL_dependsOn 15 = .ok (.lconst 0, 1) := by decide +kernel
theorem dL_dependsOn_16 : decode cL_dependsOn 16 = .ok (.lastore, 1) := by decide +kernel
theorem dL_dependsOn_17 : decode cL_dependsOn 17 = .ok (.goto 7, 3) := by decide +kernel
theorem dL_dependsOn_20 : decode cL_dependsOn 20 = .ok (.astore 4, 2) := by decide +kernel
theorem dL_dependsOn_22 : decode cL_dependsOn 22 = .ok (.iconst 1, 1) := by decide +kernel
theorem dL_dependsOn_23 : decode cL_dependsOn 23 = .ok (.ireturn, 1) := by decide +kernel
theorem dL_dependsOn_24 : decode cL_dependsOn 24 = .ok (.iconst 0, 1) := by decide +kernel
theorem dL_dependsOn_25 : decode cL_dependsOn 25 = .ok (.ireturn, 1) := by decide +kernel
set_option maxRecDepth 20000 in
theorem ggL_pathLength_X11_pathLength : GoodIn wsL_pathLength wsX11_pathLength := goodIn_ca (goodIn_r _ [6, 7, 8, 9, 10, 5, 11, 12, 13, 14, 15, 16, 17, 18, 19, 20, 21, 22, 23, 24, 25, 26, 27, 28, 29, 30, 31, 32, 33, 34, 35, 36, 37, 38, 39, 40, 41, 42, 43, 44, 45, 46, 47, 48, 49, 50, 51, 52, 53, 54, 55, 56, 57, 58, 59, 60, 61, 62, 63, 64, 65, 66, 67, 68, 69, 70, 71, 72, 73, 74, 75, 76, 77, 78, 79, 80, 81, 82] rfl (by decide +kernel)) (goodIn_sub (fun _ h => List.mem_cons_of_mem _ (List.mem_append_right _ h)) (by decide +kernel))
set_option maxRecDepth 20000 in
theorem gL_pathLength_X11_pathLength : GoodIn wsL_pathLength (wsV RL 63 RX11 yX11_pathLength wsX11_pathLength) := goodIn_app (goodIn_of _ (by decide +kernel)) ggL_pathLength_X11_pathLength
theorem dL_pathLength_0 : decode cL_pathLength 0 = .ok (.aload_n 2, 1) := by decide +kernel
theorem dL_pathLength_1 : decode cL_pathLength 1 = .ok (.iconst 0, 1) := by decide +kernel
theorem dL_pathLength_2 : decode cL_pathLength 2 = .ok (.aload_n 0, 1) := by decide +kernel
theorem dL_pathLength_3 : decode cL_pathLength 3 = .ok (.iload_n 1, 1) := by decide +kernel
theorem dL_pathLength_4 : decode cL_pathLength 4 = .ok (.invokevirtual 63, 3) := by decide +kernel
theorem dL_pathLength_7 : decode cL_pathLength 7 = .ok (.i2l, 1) := by decide +kernel
theorem dL_pathLength_8 : decode cL_pathLength 8 = .ok (.lastore, 1) := by decide +kernel
theorem dL_pathLength_9 : decode cL_pathLength 9 = .ok (.goto 6, 3) := by decide +kernel
theorem dL_pathLength_12 : decode cL_pathLength 12 = .ok (.astore_n 3, 1) := by decide +kernel
theorem dL_pathLength_13 : decode cL_pathLength 13 = .ok (.iconst 1, 1) := by decide +kernel
theorem dL_pathLength_14 : decode cL_pathLength 14 = .ok (.ireturn, 1) := by decide +kernel
theorem dL_pathLength_15 : decode cL_pathLength 15 = .ok (.iconst 0, 1) := by decide +kernel
theorem dL_pathLength_16 : decode cL_pathLength 16 = .ok (.ireturn, 1) := by decide +kernel
set_option maxRecDepth 20000 in
theorem ggL_nameLetter_X11_nameLetter : GoodIn wsL_nameLetter wsX11_nameLetter := goodIn_ca (goodIn_r _ [6, 7, 8, 9, 10, 11, 12, 5, 13, 14, 15, 16, 17, 18, 19, 20, 21, 22, 23, 24, 25, 26, 27, 28, 29, 30, 31, 32, 33, 34, 35, 36, 37, 38, 39, 40, 41, 42, 43, 44, 45, 46, 47, 48, 49, 50, 51, 52] rfl (by decide +kernel)) (goodIn_sub (fun _ h => List.mem_cons_of_mem _ (List.mem_append_right _ h)) (by decide +kernel))
set_option maxRecDepth 20000 in
theorem gL_nameLetter_X11_nameLetter : GoodIn wsL_nameLetter (wsV RL 66 RX11 yX11_nameLetter wsX11_nameLetter) := goodIn_app (goodIn_of _ (by decide +kernel)) ggL_nameLetter_X11_nameLetter
theorem dL_nameLetter_0 : decode cL_nameLetter 0 = .ok (.aload_n 3, 1) := by decide +kernel
theorem dL_nameLetter_1 : decode cL_nameLetter 1 = .ok (.iconst 0, 1) := by decide +kernel
theorem dL_nameLetter_2 : decode cL_nameLetter 2 = .ok (.aload_n 0, 1) := by decide +kernel
theorem dL_nameLetter_3 : decode cL_nameLetter 3 = .ok (.iload_n 1, 1) := by decide +kernel
theorem dL_nameLetter_4 : decode cL_nameLetter 4 = .ok (.iload_n 2, 1) := by decide +kernel
theorem dL_nameLetter_5 : decode cL_nameLetter 5 = .ok (.invokevirtual 66, 3) := by decide +kernel
theorem dL_nameLetter_8 : decode cL_nameLetter 8 = .ok (.i2l, 1) := by decide +kernel
theorem dL_nameLetter_9 : decode cL_nameLetter 9 = .ok (.lastore, 1) := by decide +kernel
theorem dL_nameLetter_10 : decode cL_nameLetter 10 = .ok (.goto 7, 3) := by decide +kernel
theorem dL_nameLetter_13 : decode cL_nameLetter 13 = .ok (.astore 4, 2) := by decide +kernel
theorem dL_nameLetter_15 : decode cL_nameLetter 15 = .ok (.iconst 1, 1) := by decide +kernel
theorem dL_nameLetter_16 : decode cL_nameLetter 16 = .ok (.ireturn, 1) := by decide +kernel
theorem dL_nameLetter_17 : decode cL_nameLetter 17 = .ok (.iconst 0, 1) := by decide +kernel
theorem dL_nameLetter_18 : decode cL_nameLetter 18 = .ok (.ireturn, 1) := by decide +kernel
set_option maxRecDepth 20000 in
theorem ggL_findStep_X11_findStep : GoodIn wsL_findStep wsX11_findStep := goodIn_ca (goodIn_r _ [6, 7, 8, 9, 10, 11, 12, 13, 14, 15, 16, 17, 18, 19, 20, 21, 22, 23, 24, 25, 26, 27, 28, 29, 30, 31, 32, 33, 34, 35, 36, 37, 38, 39, 40, 41, 42, 43, 44, 45, 46, 47, 48, 49, 50, 51, 52, 53, 54, 55, 56, 57, 58, 59, 60] rfl (by decide +kernel)) (goodIn_sub (fun _ h => List.mem_cons_of_mem _ (List.mem_append_right _ h)) (by decide +kernel))
set_option maxRecDepth 20000 in
theorem gL_findStep_X11_findStep : GoodIn wsL_findStep (wsV RL 69 RX11 yX11_findStep wsX11_findStep) := goodIn_app (goodIn_of _ (by decide +kernel)) ggL_findStep_X11_findStep
theorem dL_findStep_0 : decode cL_findStep 0 = .ok (.aload_n 1, 1) := by decide +kernel
theorem dL_findStep_1 : decode cL_findStep 1 = .ok (.iconst 0, 1) := by decide +kernel
theorem dL_findStep_2 : decode cL_findStep 2 = .ok (.aload_n 0, 1) := by decide +kernel
theorem dL_findStep_3 : decode cL_findStep 3 = .ok (.invokevirtual 69, 3) := by decide +kernel
theorem dL_findStep_6 : decode cL_findStep 6 = .ok (.i2l, 1) := by decide +kernel
theorem dL_findStep_7 : decode cL_findStep 7 = .ok (.lastore, 1) := by decide +kernel
theorem dL_findStep_8 : decode cL_findStep 8 = .ok (.goto 6, 3) := by decide +kernel
theorem dL_findStep_11 : decode cL_findStep 11 = .ok (.astore_n 2, 1) := by decide +kernel
theorem dL_findStep_12 : decode cL_findStep 12 = .ok (.iconst 1, 1) := by decide +kernel
theorem dL_findStep_13 : decode cL_findStep 13 = .ok (.ireturn, 1) := by decide +kernel
theorem dL_findStep_14 : decode cL_findStep 14 = .ok (.iconst 0, 1) := by decide +kernel
theorem dL_findStep_15 : decode cL_findStep 15 = .ok (.ireturn, 1) := by decide +kernel
set_option maxRecDepth 20000 in
theorem ggL_status_X11_status : GoodIn wsL_status wsX11_status := goodIn_ca (goodIn_r _ [6, 7, 8, 9, 10, 5, 11, 12, 13, 14, 15, 16, 17, 18, 19, 20, 21, 22, 23, 24, 25, 26, 27, 28, 29, 30, 31, 32, 33, 34, 35, 36, 37, 38, 39, 40, 41, 42, 43, 44, 45, 46, 47, 48, 49, 50, 51, 52, 53, 54, 55, 56, 57, 58, 59, 60, 61, 62, 63, 64, 65, 66, 67, 68, 69, 70, 71, 72, 73, 74, 75, 76, 77] rfl (by decide +kernel)) (goodIn_sub (fun _ h => List.mem_cons_of_mem _ (List.mem_append_right _ h)) (by decide +kernel))
set_option maxRecDepth 20000 in
theorem gL_status_X11_status : GoodIn wsL_status (wsV RL 74 RX11 yX11_status wsX11_status) := goodIn_app (goodIn_of _ (by decide +kernel)) ggL_status_X11_status
theorem dL_status_0 : decode cL_status 0 = .ok (.aload_n 2, 1) := by decide +kernel
theorem dL_status_1 : decode cL_status 1 = .ok (.iconst 0, 1) := by decide +kernel
theorem dL_status_2 : decode cL_status 2 = .ok (.aload_n 0, 1) := by decide +kernel
theorem dL_status_3 : decode cL_status 3 = .ok (.iload_n 1, 1) := by decide +kernel
theorem dL_status_4 : decode cL_status 4 = .ok (.invokevirtual 74, 3) := by decide +kernel
theorem dL_status_7 : decode cL_status 7 = .ok (.i2l, 1) := by decide +kernel
theorem dL_status_8 : decode cL_status 8 = .ok (.lastore, 1) := by decide +kernel
theorem dL_status_9 : decode cL_status 9 = .ok (.goto 6, 3) := by decide +kernel
theorem dL_status_12 : decode cL_status 12 = .ok (.astore_n 3, 1) := by decide +kernel
theorem dL_status_13 : decode cL_status 13 = .ok (.iconst 1, 1) := by decide +kernel
theorem dL_status_14 : decode cL_status 14 = .ok (.ireturn, 1) := by decide +kernel
theorem dL_status_15 : decode cL_status 15 = .ok (.iconst 0, 1) := by decide +kernel
theorem dL_status_16 : decode cL_status 16 = .ok (.ireturn, 1) := by decide +kernel
set_option maxRecDepth 20000 in
theorem ggL_remaining_X11_remaining : GoodIn wsL_remaining wsX11_remaining := goodIn_ca (goodIn_r _ [6, 7, 8, 9, 10, 5, 11, 12, 13, 14, 15, 16, 17, 18, 19, 20, 21, 22, 23, 24, 25, 26, 27, 28, 29, 30, 31, 32, 33, 34, 35, 36, 37, 38, 39, 40, 41, 42, 43, 44, 45, 46, 47, 48, 49, 50, 51, 52, 53, 54, 55, 56, 57, 58, 59, 60, 61, 62, 63, 64, 65, 66, 67] rfl (by decide +kernel)) (goodIn_sub (fun _ h => List.mem_cons_of_mem _ (List.mem_append_right _ h)) (by decide +kernel))
set_option maxRecDepth 20000 in
theorem gL_remaining_X11_remaining : GoodIn wsL_remaining (wsV RL 77 RX11 yX11_remaining wsX11_remaining) := goodIn_app (goodIn_of _ (by decide +kernel)) ggL_remaining_X11_remaining
theorem dL_remaining_0 : decode cL_remaining 0 = .ok (.aload_n 2, 1) := by decide +kernel
theorem dL_remaining_1 : decode cL_remaining 1 = .ok (.iconst 0, 1) := by decide +kernel
theorem dL_remaining_2 : decode cL_remaining 2 = .ok (.aload_n 0, 1) := by decide +kernel
theorem dL_remaining_3 : decode cL_remaining 3 = .ok (.iload_n 1, 1) := by decide +kernel
theorem dL_remaining_4 : decode cL_remaining 4 = .ok (.invokevirtual 77, 3) := by decide +kernel
theorem dL_remaining_7 : decode cL_remaining 7 = .ok (.i2l, 1) := by decide +kernel
theorem dL_remaining_8 : decode cL_remaining 8 = .ok (.lastore, 1) := by decide +kernel
theorem dL_remaining_9 : decode cL_remaining 9 = .ok (.goto 6, 3) := by decide +kernel
theorem dL_remaining_12 : decode cL_remaining 12 = .ok (.astore_n 3, 1) := by decide +kernel
theorem dL_remaining_13 : decode cL_remaining 13 = .ok (.iconst 1, 1) := by decide +kernel
theorem dL_remaining_14 : decode cL_remaining 14 = .ok (.ireturn, 1) := by decide +kernel
theorem dL_remaining_15 : decode cL_remaining 15 = .ok (.iconst 0, 1) := by decide +kernel
theorem dL_remaining_16 : decode cL_remaining 16 = .ok (.ireturn, 1) := by decide +kernel
set_option maxRecDepth 20000 in
theorem ggL_age_X11_age : GoodIn wsL_age wsX11_age := goodIn_ca (goodIn_r _ [6, 7, 8, 9, 10, 5, 11, 12, 13, 14, 15, 16, 17, 18, 19, 20, 21, 22, 23, 24, 25, 26, 27, 28, 29, 30, 31, 32, 33, 34, 35, 36, 37, 38, 39, 40, 41, 42, 43, 44, 45, 46, 47, 48, 49, 50, 51, 52, 53, 54, 55, 56, 57, 58, 59, 60, 61, 62, 63, 64, 65, 66, 67] rfl (by decide +kernel)) (goodIn_sub (fun _ h => List.mem_cons_of_mem _ (List.mem_append_right _ h)) (by decide +kernel))
set_option maxRecDepth 20000 in
theorem gL_age_X11_age : GoodIn wsL_age (wsV RL 80 RX11 yX11_age wsX11_age) := goodIn_app (goodIn_of _ (by decide +kernel)) ggL_age_X11_age
theorem dL_age_0 : decode cL_age 0 = .ok (.aload_n 2, 1) := by decide +kernel
theorem dL_age_1 : decode cL_age 1 = .ok (.iconst 0, 1) := by decide +kernel
theorem dL_age_2 : decode cL_age 2 = .ok (.aload_n 0, 1) := by decide +kernel
theorem dL_age_3 : decode cL_age 3 = .ok (.iload_n 1, 1) := by decide +kernel
theorem dL_age_4 : decode cL_age 4 = .ok (.invokevirtual 80, 3) := by decide +kernel
theorem dL_age_7 : decode cL_age 7 = .ok (.i2l, 1) := by decide +kernel
theorem dL_age_8 : decode cL_age 8 = .ok (.lastore, 1) := by decide +kernel
theorem dL_age_9 : decode cL_age 9 = .ok (.goto 6, 3) := by decide +kernel
theorem dL_age_12 : decode cL_age 12 = .ok (.astore_n 3, 1) := by decide +kernel
theorem dL_age_13 : decode cL_age 13 = .ok (.iconst 1, 1) := by decide +kernel
theorem dL_age_14 : decode cL_age 14 = .ok (.ireturn, 1) := by decide +kernel
theorem dL_age_15 : decode cL_age 15 = .ok (.iconst 0, 1) := by decide +kernel
theorem dL_age_16 : decode cL_age 16 = .ok (.ireturn, 1) := by decide +kernel
set_option maxRecDepth 20000 in
theorem ggL_startsOf_X11_startsOf : GoodIn wsL_startsOf wsX11_startsOf := goodIn_ca (goodIn_r _ [6, 7, 8, 9, 10, 5, 11, 12, 13, 14, 15, 16, 17, 18, 19, 20, 21, 22, 23, 24, 25, 26, 27, 28, 29, 30, 31, 32, 33, 34, 35, 36, 37, 38, 39, 40, 41, 42, 43, 44, 45, 46, 47, 48, 49, 50, 51, 52, 53, 54, 55, 56, 57, 58, 59, 60, 61, 62, 63, 64, 65, 66, 67] rfl (by decide +kernel)) (goodIn_sub (fun _ h => List.mem_cons_of_mem _ (List.mem_append_right _ h)) (by decide +kernel))
set_option maxRecDepth 20000 in
theorem gL_startsOf_X11_startsOf : GoodIn wsL_startsOf (wsV RL 83 RX11 yX11_startsOf wsX11_startsOf) := goodIn_app (goodIn_of _ (by decide +kernel)) ggL_startsOf_X11_startsOf
theorem dL_startsOf_0 : decode cL_startsOf 0 = .ok (.aload_n 2, 1) := by decide +kernel
theorem dL_startsOf_1 : decode cL_startsOf 1 = .ok (.iconst 0, 1) := by decide +kernel
theorem dL_startsOf_2 : decode cL_startsOf 2 = .ok (.aload_n 0, 1) := by decide +kernel
theorem dL_startsOf_3 : decode cL_startsOf 3 = .ok (.iload_n 1, 1) := by decide +kernel
theorem dL_startsOf_4 : decode cL_startsOf 4 = .ok (.invokevirtual 83, 3) := by decide +kernel
theorem dL_startsOf_7 : decode cL_startsOf 7 = .ok (.i2l, 1) := by decide +kernel
theorem dL_startsOf_8 : decode cL_startsOf 8 = .ok (.lastore, 1) := by decide +kernel
theorem dL_startsOf_9 : decode cL_startsOf 9 = .ok (.goto 6, 3) := by decide +kernel
theorem dL_startsOf_12 : decode cL_startsOf 12 = .ok (.astore_n 3, 1) := by decide +kernel
theorem dL_startsOf_13 : decode cL_startsOf 13 = .ok (.iconst 1, 1) := by decide +kernel
theorem dL_startsOf_14 : decode cL_startsOf 14 = .ok (.ireturn, 1) := by decide +kernel
theorem dL_startsOf_15 : decode cL_startsOf 15 = .ok (.iconst 0, 1) := by decide +kernel
theorem dL_startsOf_16 : decode cL_startsOf 16 = .ok (.ireturn, 1) := by decide +kernel
set_option maxRecDepth 20000 in
theorem ggL_isTakenUp_X11_isTakenUp : GoodIn wsL_isTakenUp wsX11_isTakenUp := goodIn_ca (goodIn_r _ [6, 7, 8, 9, 10, 5, 11, 12, 13, 14, 15, 16, 17, 18, 19, 20, 21, 22, 23, 24, 25, 26, 27, 28, 29, 30, 31, 32, 33, 34, 35, 36, 37, 38, 39, 40, 41, 42, 43, 44, 45, 46, 47, 48, 49, 50, 51, 52, 53, 54, 55, 56, 57, 58, 59, 60, 61, 62, 63, 64, 65, 66, 67, 68, 69, 70, 71, 72, 73, 74, 75, 76, 77] rfl (by decide +kernel)) (goodIn_sub (fun _ h => List.mem_cons_of_mem _ (List.mem_append_right _ h)) (by decide +kernel))
set_option maxRecDepth 20000 in
theorem gL_isTakenUp_X11_isTakenUp : GoodIn wsL_isTakenUp (wsV RL 86 RX11 yX11_isTakenUp wsX11_isTakenUp) := goodIn_app (goodIn_of _ (by decide +kernel)) ggL_isTakenUp_X11_isTakenUp
theorem dL_isTakenUp_0 : decode cL_isTakenUp 0 = .ok (.aload_n 2, 1) := by decide +kernel
theorem dL_isTakenUp_1 : decode cL_isTakenUp 1 = .ok (.iconst 0, 1) := by decide +kernel
theorem dL_isTakenUp_2 : decode cL_isTakenUp 2 = .ok (.aload_n 0, 1) := by decide +kernel
theorem dL_isTakenUp_3 : decode cL_isTakenUp 3 = .ok (.iload_n 1, 1) := by decide +kernel
theorem dL_isTakenUp_4 : decode cL_isTakenUp 4 = .ok (.invokevirtual 86, 3) := by decide +kernel
theorem dL_isTakenUp_7 : decode cL_isTakenUp 7 = .ok (.ifCond .eq 7, 3) := by decide +kernel
theorem dL_isTakenUp_10 : decode cL_isTakenUp 10 = .ok (.lconst 1, 1) := by decide +kernel
theorem dL_isTakenUp_11 : decode cL_isTakenUp 11 = .ok (.goto 4, 3) := by decide +kernel
theorem dL_isTakenUp_14 : decode cL_isTakenUp 14 = .ok (.lconst 0, 1) := by decide +kernel
theorem dL_isTakenUp_15 : decode cL_isTakenUp 15 = .ok (.lastore, 1) := by decide +kernel
theorem dL_isTakenUp_16 : decode cL_isTakenUp 16 = .ok (.goto 6, 3) := by decide +kernel
theorem dL_isTakenUp_19 : decode cL_isTakenUp 19 = .ok (.astore_n 3, 1) := by decide +kernel
theorem dL_isTakenUp_20 : decode cL_isTakenUp 20 = .ok (.iconst 1, 1) := by decide +kernel
theorem dL_isTakenUp_21 : decode cL_isTakenUp 21 = .ok (.ireturn, 1) := by decide +kernel
theorem dL_isTakenUp_22 : decode cL_isTakenUp 22 = .ok (.iconst 0, 1) := by decide +kernel
theorem dL_isTakenUp_23 : decode cL_isTakenUp 23 = .ok (.ireturn, 1) := by decide +kernel
set_option maxRecDepth 20000 in
theorem ggL_whyNotRunning_X11_whyNotRunning : GoodIn wsL_whyNotRunning wsX11_whyNotRunning := goodIn_ca (goodIn_r _ [6, 7, 8, 9, 10, 5, 11, 12, 13, 14, 15, 16, 17, 18, 19, 20, 21, 22, 23, 24, 25, 26, 27, 28, 29, 30, 31, 32, 33, 34, 35, 36, 37, 38, 39, 40, 41, 42, 43, 44, 45, 46, 47, 48, 49, 50, 51, 52, 53, 54, 55, 56, 57, 58, 59, 60, 61, 62, 63, 64, 65, 66, 67, 68, 69, 70, 71, 72, 73, 74, 75, 76, 77, 78, 79, 80, 81, 82, 83, 84, 85, 86, 87, 88, 89, 90, 91, 92, 93, 94, 95] rfl (by decide +kernel)) (goodIn_sub (fun _ h => List.mem_cons_of_mem _ (List.mem_append_right _ h)) (by decide +kernel))
set_option maxRecDepth 20000 in
theorem gL_whyNotRunning_X11_whyNotRunning : GoodIn wsL_whyNotRunning (wsV RL 89 RX11 yX11_whyNotRunning wsX11_whyNotRunning) := goodIn_app (goodIn_of _ (by decide +kernel)) ggL_whyNotRunning_X11_whyNotRunning
theorem dL_whyNotRunning_0 : decode cL_whyNotRunning 0 = .ok (.aload_n 2, 1) := by decide +kernel
theorem dL_whyNotRunning_1 : decode cL_whyNotRunning 1 = .ok (.iconst 0, 1) := by decide +kernel
theorem dL_whyNotRunning_2 : decode cL_whyNotRunning 2 = .ok (.aload_n 0, 1) := by decide +kernel
theorem dL_whyNotRunning_3 : decode cL_whyNotRunning 3 = .ok (.iload_n 1, 1) := by decide +kernel
theorem dL_whyNotRunning_4 : decode cL_whyNotRunning 4 = .ok (.invokevirtual 89, 3) := by decide +kernel
theorem dL_whyNotRunning_7 : decode cL_whyNotRunning 7 = .ok (.i2l, 1) := by decide +kernel
theorem dL_whyNotRunning_8 : decode cL_whyNotRunning 8 = .ok (.lastore, 1) := by decide +kernel
theorem dL_whyNotRunning_9 : decode cL_whyNotRunning 9 = .ok (.goto 6, 3) := by decide +kernel
theorem dL_whyNotRunning_12 : decode cL_whyNotRunning 12 = .ok (.astore_n 3, 1) := by decide +kernel
theorem dL_whyNotRunning_13 : decode cL_whyNotRunning 13 = .ok (.iconst 1, 1) := by decide +kernel
theorem dL_whyNotRunning_14 : decode cL_whyNotRunning 14 = .ok (.ireturn, 1) := by decide +kernel
theorem dL_whyNotRunning_15 : decode cL_whyNotRunning 15 = .ok (.iconst 0, 1) := by decide +kernel
theorem dL_whyNotRunning_16 : decode cL_whyNotRunning 16 = .ok (.ireturn, 1) := by decide +kernel
set_option maxRecDepth 20000 in
theorem ggL_blockingStep_X11_blockingStep : GoodIn wsL_blockingStep wsX11_blockingStep := goodIn_ca (goodIn_r _ [6, 7, 8, 9, 10, 5, 11, 12, 13, 14, 15, 16, 17, 18, 19, 20, 21, 22, 23, 24, 25, 26, 27, 28, 29, 30, 31, 32, 33, 34, 35, 36, 37, 38, 39, 40, 41, 42, 43, 44, 45, 46, 47, 48, 49, 50, 51, 52, 53, 54, 55, 56, 57, 58, 59, 60, 61, 62, 63, 64, 65, 66, 67, 68, 69, 70, 71, 72, 73, 74, 75, 76, 77, 78, 79, 80, 81, 82, 83, 84, 85, 86, 87, 88, 89, 90, 91, 92, 93, 94, 95, 96, 97, 98, 99, 100, 101, 102, 103, 104, 105, 106] rfl (by decide +kernel)) (goodIn_sub (fun _ h => List.mem_cons_of_mem _ (List.mem_append_right _ h)) (by decide +kernel))
set_option maxRecDepth 20000 in
theorem gL_blockingStep_X11_blockingStep : GoodIn wsL_blockingStep (wsV RL 92 RX11 yX11_blockingStep wsX11_blockingStep) := goodIn_app (goodIn_of _ (by decide +kernel)) ggL_blockingStep_X11_blockingStep
theorem dL_blockingStep_0 : decode cL_blockingStep 0 = .ok (.aload_n 2, 1) := by decide +kernel
theorem dL_blockingStep_1 : decode cL_blockingStep 1 = .ok (.iconst 0, 1) := by decide +kernel
theorem dL_blockingStep_2 : decode cL_blockingStep 2 = .ok (.aload_n 0, 1) := by decide +kernel
theorem dL_blockingStep_3 : decode cL_blockingStep 3 = .ok (.iload_n 1, 1) := by decide +kernel
theorem dL_blockingStep_4 : decode cL_blockingStep 4 = .ok (.invokevirtual 92, 3) := by decide +kernel
theorem dL_blockingStep_7 : decode cL_blockingStep 7 = .ok (.i2l, 1) := by decide +kernel
theorem dL_blockingStep_8 : decode cL_blockingStep 8 = .ok (.lastore, 1) := by decide +kernel
theorem dL_blockingStep_9 : decode cL_blockingStep 9 = .ok (.goto 6, 3) := by decide +kernel
theorem dL_blockingStep_12 : decode cL_blockingStep 12 = .ok (.astore_n 3, 1) := by decide +kernel
theorem dL_blockingStep_13 : decode cL_blockingStep 13 = .ok (.iconst 1, 1) := by decide +kernel
theorem dL_blockingStep_14 : decode cL_blockingStep 14 = .ok (.ireturn, 1) := by decide +kernel
theorem dL_blockingStep_15 : decode cL_blockingStep 15 = .ok (.iconst 0, 1) := by decide +kernel
theorem dL_blockingStep_16 : decode cL_blockingStep 16 = .ok (.ireturn, 1) := by decide +kernel
set_option maxRecDepth 20000 in
theorem ggL_rootBlocker_X11_rootBlocker : GoodIn wsL_rootBlocker wsX11_rootBlocker := goodIn_ca (goodIn_r _ [6, 7, 8, 9, 10, 5, 11, 12, 13, 14, 15, 16, 17, 18, 19, 20, 21, 22, 23, 24, 25, 26, 27, 28, 29, 30, 31, 32, 33, 34, 35, 36, 37, 38, 39, 40, 41, 42, 43, 44, 45, 46, 47, 48, 49, 50, 51, 52, 53, 54, 55, 56, 57, 58, 59, 60, 61, 62, 63, 64, 65, 66, 67, 68, 69, 70, 71, 72, 73, 74, 75, 76, 77, 78, 79, 80, 81, 82, 83, 84, 85, 86, 87, 88, 89, 90, 91, 92, 93, 94, 95, 96, 97, 98, 99, 100, 101, 102, 103] rfl (by decide +kernel)) (goodIn_sub (fun _ h => List.mem_cons_of_mem _ (List.mem_append_right _ h)) (by decide +kernel))
set_option maxRecDepth 20000 in
theorem gL_rootBlocker_X11_rootBlocker : GoodIn wsL_rootBlocker (wsV RL 95 RX11 yX11_rootBlocker wsX11_rootBlocker) := goodIn_app (goodIn_of _ (by decide +kernel)) ggL_rootBlocker_X11_rootBlocker
theorem dL_rootBlocker_0 : decode cL_rootBlocker 0 = .ok (.aload_n 2, 1) := by decide +kernel
theorem dL_rootBlocker_1 : decode cL_rootBlocker 1 = .ok (.iconst 0, 1) := by decide +kernel
theorem dL_rootBlocker_2 : decode cL_rootBlocker 2 = .ok (.aload_n 0, 1) := by decide +kernel
theorem dL_rootBlocker_3 : decode cL_rootBlocker 3 = .ok (.iload_n 1, 1) := by decide +kernel
theorem dL_rootBlocker_4 : decode cL_rootBlocker 4 = .ok (.invokevirtual 95, 3) := by decide +kernel
theorem dL_rootBlocker_7 : decode cL_rootBlocker 7 = .ok (.i2l, 1) := by decide +kernel
theorem dL_rootBlocker_8 : decode cL_rootBlocker 8 = .ok (.lastore, 1) := by decide +kernel
theorem dL_rootBlocker_9 : decode cL_rootBlocker 9 = .ok (.goto 6, 3) := by decide +kernel
theorem dL_rootBlocker_12 : decode cL_rootBlocker 12 = .ok (.astore_n 3, 1) := by decide +kernel
theorem dL_rootBlocker_13 : decode cL_rootBlocker 13 = .ok (.iconst 1, 1) := by decide +kernel
theorem dL_rootBlocker_14 : decode cL_rootBlocker 14 = .ok (.ireturn, 1) := by decide +kernel
theorem dL_rootBlocker_15 : decode cL_rootBlocker 15 = .ok (.iconst 0, 1) := by decide +kernel
theorem dL_rootBlocker_16 : decode cL_rootBlocker 16 = .ok (.ireturn, 1) := by decide +kernel
set_option maxRecDepth 20000 in
theorem ggL_slack_X11_slack : GoodIn wsL_slack wsX11_slack := goodIn_ca (goodIn_r _ [6, 7, 8, 9, 10, 5, 11, 12, 13, 14, 15, 16, 17, 18, 19, 20, 21, 22, 23, 24, 25, 26, 27, 28, 29, 30, 31, 32, 33, 34, 35, 36, 37, 38, 39, 40, 41, 42, 43, 44, 45, 46, 47, 48, 49, 50, 51, 52, 53, 54, 55, 56, 57, 58, 59, 60, 61, 62, 63, 64, 65, 66, 67, 68, 69, 70, 71, 72, 73, 74, 75, 76, 77, 78, 79, 80, 81, 82, 83, 84, 85, 86, 87, 88, 89, 90, 91] rfl (by decide +kernel)) (goodIn_sub (fun _ h => List.mem_cons_of_mem _ (List.mem_append_right _ h)) (by decide +kernel))
set_option maxRecDepth 20000 in
theorem gL_slack_X11_slack : GoodIn wsL_slack (wsV RL 98 RX11 yX11_slack wsX11_slack) := goodIn_app (goodIn_of _ (by decide +kernel)) ggL_slack_X11_slack
theorem dL_slack_0 : decode cL_slack 0 = .ok (.aload_n 2, 1) := by decide +kernel
theorem dL_slack_1 : decode cL_slack 1 = .ok (.iconst 0, 1) := by decide +kernel
theorem dL_slack_2 : decode cL_slack 2 = .ok (.aload_n 0, 1) := by decide +kernel
theorem dL_slack_3 : decode cL_slack 3 = .ok (.iload_n 1, 1) := by decide +kernel
theorem dL_slack_4 : decode cL_slack 4 = .ok (.invokevirtual 98, 3) := by decide +kernel
theorem dL_slack_7 : decode cL_slack 7 = .ok (.i2l, 1) := by decide +kernel
theorem dL_slack_8 : decode cL_slack 8 = .ok (.lastore, 1) := by decide +kernel
theorem dL_slack_9 : decode cL_slack 9 = .ok (.goto 6, 3) := by decide +kernel
theorem dL_slack_12 : decode cL_slack 12 = .ok (.astore_n 3, 1) := by decide +kernel
theorem dL_slack_13 : decode cL_slack 13 = .ok (.iconst 1, 1) := by decide +kernel
theorem dL_slack_14 : decode cL_slack 14 = .ok (.ireturn, 1) := by decide +kernel
theorem dL_slack_15 : decode cL_slack 15 = .ok (.iconst 0, 1) := by decide +kernel
theorem dL_slack_16 : decode cL_slack 16 = .ok (.ireturn, 1) := by decide +kernel
set_option maxRecDepth 20000 in
theorem ggL_statusAfter_X11_statusAfter : GoodIn wsL_statusAfter wsX11_statusAfter := goodIn_ca (goodIn_ca (goodIn_r _ [6, 7, 8, 9, 10, 11, 12, 13, 5, 14, 15, 16, 17, 18, 19, 20, 21, 22, 23, 24, 25, 26, 27, 28, 29, 30, 31, 32, 33, 34, 35, 36, 37, 38, 39, 40, 41, 42, 43, 44, 45, 46, 47, 48, 49, 50, 51, 52, 53, 54, 55, 56, 57, 58, 59, 60, 61, 62, 63, 64, 65, 66, 67, 68, 69, 70, 71, 72, 73, 74, 75, 76, 77, 78, 79, 80, 81, 82, 83, 84, 85, 86, 87, 88, 89, 90, 91, 92, 93, 94, 95, 96, 97, 98, 99, 100, 101, 102, 103, 104, 105, 106, 107, 108, 109, 110, 111, 112, 113, 114, 115, 116, 117, 118, 119, 120, 121, 122, 123, 124, 125, 126, 127, 128, 129, 130, 131, 132, 133, 134, 135, 136, 137, 138, 139, 140, 141, 142, 143, 144, 145, 146, 147, 148, 149, 150, 151, 152, 153, 154, 155, 156, 157, 158, 159, 160, 161, 162, 163, 164, 165, 166, 167, 168, 169, 170, 171, 172, 173, 174, 175, 176, 177, 178, 179, 180, 181, 182] rfl (by decide +kernel)) (goodIn_sub (fun _ h => List.mem_cons_of_mem _ (List.mem_append_left _ (List.mem_append_right _ h))) (by decide +kernel))) (goodIn_sub (fun _ h => List.mem_cons_of_mem _ (List.mem_append_right _ h)) (by decide +kernel))
set_option maxRecDepth 20000 in
theorem gL_statusAfter_X11_statusAfter : GoodIn wsL_statusAfter (wsV RL 101 RX11 yX11_statusAfter wsX11_statusAfter) := goodIn_app (goodIn_of _ (by decide +kernel)) ggL_statusAfter_X11_statusAfter
theorem dL_statusAfter_0 : decode cL_statusAfter 0 = .ok (.aload_n 3, 1) := by decide +kernel
theorem dL_statusAfter_1 : decode cL_statusAfter 1 = .ok (.iconst 0, 1) := by decide +kernel
theorem dL_statusAfter_2 : decode cL_statusAfter 2 = .ok (.aload_n 0, 1) := by decide +kernel
theorem dL_statusAfter_3 : decode cL_statusAfter 3 = .ok (.iload_n 1, 1) := by decide +kernel
theorem dL_statusAfter_4 : decode cL_statusAfter 4 = .ok (.iload_n 2, 1) := by decide +kernel
theorem dL_statusAfter_5 : decode cL_statusAfter 5 = .ok (.invokevirtual 101, 3) := by decide +kernel
theorem dL_statusAfter_8 : decode cL_statusAfter 8 = .ok (.i2l, 1) := by decide +kernel
theorem dL_statusAfter_9 : decode cL_statusAfter 9 = .ok (.lastore, 1) := by decide +kernel
theorem dL_statusAfter_10 : decode cL_statusAfter 10 = .ok (.goto 11, 3) := by decide +kernel
theorem dL_statusAfter_13 : decode cL_statusAfter 13 = .ok (.astore 4, 2) := by decide +kernel
theorem dL_statusAfter_15 : decode cL_statusAfter 15 = .ok (.iconst 1, 1) := by decide +kernel
theorem dL_statusAfter_16 : decode cL_statusAfter 16 = .ok (.ireturn, 1) := by decide +kernel
theorem dL_statusAfter_17 : decode cL_statusAfter 17 = .ok (.astore 4, 2) := by decide +kernel
theorem dL_statusAfter_19 : decode cL_statusAfter 19 = .ok (.iconst 2, 1) := by decide +kernel
theorem dL_statusAfter_20 : decode cL_statusAfter 20 = .ok (.ireturn, 1) := by decide +kernel
theorem dL_statusAfter_21 : decode cL_statusAfter 21 = .ok (.iconst 0, 1) := by decide +kernel
theorem dL_statusAfter_22 : decode cL_statusAfter 22 = .ok (.ireturn, 1) := by decide +kernel
set_option maxRecDepth 20000 in
theorem ggL_minutesToBurn_X11_minutesToBurn : GoodIn wsL_minutesToBurn wsX11_minutesToBurn := goodIn_ca (goodIn_r _ [6, 7, 8, 9, 10, 11, 5, 12, 13, 14, 15, 16, 17, 18, 19, 20, 21, 22, 23, 24, 25, 26, 27, 28, 29, 30, 31, 32, 33, 34, 35, 36, 37, 38, 39, 40, 41, 42, 43, 44, 45, 46, 47, 48, 49, 50, 51, 52, 53, 54, 55, 56, 57, 58, 59, 60, 61, 62, 63, 64, 65, 66, 67, 68, 69, 70, 71, 72, 73, 74, 75, 76, 77, 78, 79, 80, 81, 82, 83, 84, 85, 86, 87, 88, 89, 90, 91, 92, 93, 94, 95, 96, 97, 98, 99, 100, 101, 102, 103, 104, 105, 106, 107, 108, 109, 110, 111, 112, 113, 114, 115, 116, 117, 118, 119, 120, 121, 122, 123, 124, 125, 126, 127, 128, 129, 130, 131, 132, 133, 134, 135, 136, 137, 138, 139, 140, 141, 142, 143, 144, 145, 146, 147, 148, 149, 150, 151, 152, 153, 154, 155, 156, 157, 158, 159, 160, 161, 162, 163, 164, 165, 166, 167, 168, 169, 170, 171, 172, 173, 174, 175, 176] rfl (by decide +kernel)) (goodIn_sub (fun _ h => List.mem_cons_of_mem _ (List.mem_append_right _ h)) (by decide +kernel))
set_option maxRecDepth 20000 in
theorem gL_minutesToBurn_X11_minutesToBurn : GoodIn wsL_minutesToBurn (wsV RL 104 RX11 yX11_minutesToBurn wsX11_minutesToBurn) := goodIn_app (goodIn_of _ (by decide +kernel)) ggL_minutesToBurn_X11_minutesToBurn
theorem dL_minutesToBurn_0 : decode cL_minutesToBurn 0 = .ok (.aload_n 2, 1) := by decide +kernel
theorem dL_minutesToBurn_1 : decode cL_minutesToBurn 1 = .ok (.iconst 0, 1) := by decide +kernel
theorem dL_minutesToBurn_2 : decode cL_minutesToBurn 2 = .ok (.aload_n 0, 1) := by decide +kernel
theorem dL_minutesToBurn_3 : decode cL_minutesToBurn 3 = .ok (.iload_n 1, 1) := by decide +kernel
theorem dL_minutesToBurn_4 : decode cL_minutesToBurn 4 = .ok (.invokevirtual 104, 3) := by decide +kernel
theorem dL_minutesToBurn_7 : decode cL_minutesToBurn 7 = .ok (.i2l, 1) := by decide +kernel
theorem dL_minutesToBurn_8 : decode cL_minutesToBurn 8 = .ok (.lastore, 1) := by decide +kernel
theorem dL_minutesToBurn_9 : decode cL_minutesToBurn 9 = .ok (.goto 6, 3) := by decide +kernel
theorem dL_minutesToBurn_12 : decode cL_minutesToBurn 12 = .ok (.astore_n 3, 1) := by decide +kernel
theorem dL_minutesToBurn_13 : decode cL_minutesToBurn 13 = .ok (.iconst 1, 1) := by decide +kernel
theorem dL_minutesToBurn_14 : decode cL_minutesToBurn 14 = .ok (.ireturn, 1) := by decide +kernel
theorem dL_minutesToBurn_15 : decode cL_minutesToBurn 15 = .ok (.iconst 0, 1) := by decide +kernel
theorem dL_minutesToBurn_16 : decode cL_minutesToBurn 16 = .ok (.ireturn, 1) := by decide +kernel
set_option maxRecDepth 20000 in
theorem ggL_minutesWithCooks_X11_minutesWithCooks : GoodIn wsL_minutesWithCooks wsX11_minutesWithCooks := goodIn_ca (goodIn_r _ [6, 7, 8, 9, 5, 10, 11, 12, 13, 14, 15, 16, 17, 18, 19, 20, 21, 22, 23, 24, 25, 26, 27, 28, 29, 30, 31, 32, 33, 34, 35, 36, 37, 38, 39, 40, 41, 42, 43, 44, 45, 46, 47, 48, 49, 50, 51, 52, 53, 54, 55, 56, 57, 58, 59, 60, 61, 62, 63, 64, 65, 66, 67, 68, 69, 70, 71, 72, 73, 74, 75, 76, 77, 78, 79, 80, 81, 82, 83, 84, 85, 86, 87, 88, 89, 90, 91, 92, 93, 94, 95, 96, 97, 98, 99, 100, 101, 102, 103, 104, 105, 106, 107, 108, 109, 110, 111, 112, 113, 114, 115, 116, 117, 118, 119, 120, 121, 122, 123, 124, 125, 126, 127, 128, 129, 130, 131, 132, 133, 134, 135, 136, 137, 138, 139, 140, 141, 142, 143, 144, 145, 146, 147, 148, 149, 150, 151, 152, 153, 154, 155, 156, 157, 158, 159, 160, 161, 162, 163, 164, 165, 166, 167, 168, 169, 170, 171, 172, 173, 174, 175, 176, 177, 178, 179, 180, 181, 182, 183, 184] rfl (by decide +kernel)) (goodIn_sub (fun _ h => List.mem_cons_of_mem _ (List.mem_append_right _ h)) (by decide +kernel))
set_option maxRecDepth 20000 in
theorem gL_minutesWithCooks_X11_minutesWithCooks : GoodIn wsL_minutesWithCooks (wsV RL 107 RX11 yX11_minutesWithCooks wsX11_minutesWithCooks) := goodIn_app (goodIn_of _ (by decide +kernel)) ggL_minutesWithCooks_X11_minutesWithCooks
theorem dL_minutesWithCooks_0 : decode cL_minutesWithCooks 0 = .ok (.aload_n 2, 1) := by decide +kernel
theorem dL_minutesWithCooks_1 : decode cL_minutesWithCooks 1 = .ok (.iconst 0, 1) := by decide +kernel
theorem dL_minutesWithCooks_2 : decode cL_minutesWithCooks 2 = .ok (.aload_n 0, 1) := by decide +kernel
theorem dL_minutesWithCooks_3 : decode cL_minutesWithCooks 3 = .ok (.iload_n 1, 1) := by decide +kernel
theorem dL_minutesWithCooks_4 : decode cL_minutesWithCooks 4 = .ok (.invokevirtual 107, 3) := by decide +kernel
theorem dL_minutesWithCooks_7 : decode cL_minutesWithCooks 7 = .ok (.i2l, 1) := by decide +kernel
theorem dL_minutesWithCooks_8 : decode cL_minutesWithCooks 8 = .ok (.lastore, 1) := by decide +kernel
theorem dL_minutesWithCooks_9 : decode cL_minutesWithCooks 9 = .ok (.goto 6, 3) := by decide +kernel
theorem dL_minutesWithCooks_12 : decode cL_minutesWithCooks 12 = .ok (.astore_n 3, 1) := by decide +kernel
theorem dL_minutesWithCooks_13 : decode cL_minutesWithCooks 13 = .ok (.iconst 1, 1) := by decide +kernel
theorem dL_minutesWithCooks_14 : decode cL_minutesWithCooks 14 = .ok (.ireturn, 1) := by decide +kernel
theorem dL_minutesWithCooks_15 : decode cL_minutesWithCooks 15 = .ok (.iconst 0, 1) := by decide +kernel
theorem dL_minutesWithCooks_16 : decode cL_minutesWithCooks 16 = .ok (.ireturn, 1) := by decide +kernel
set_option maxRecDepth 20000 in
theorem ggL_bottleneck_X11_bottleneck : GoodIn wsL_bottleneck wsX11_bottleneck := goodIn_ca (goodIn_r _ [6, 7, 8, 9, 10, 11, 5, 12, 13, 14, 15, 16, 17, 18, 19, 20, 21, 22, 23, 24, 25, 26, 27, 28, 29, 30, 31, 32, 33, 34, 35, 36, 37, 38, 39, 40, 41, 42, 43, 44, 45, 46, 47, 48, 49, 50, 51, 52, 53, 54, 55, 56, 57, 58, 59, 60, 61, 62, 63, 64, 65, 66, 67, 68, 69, 70, 71, 72, 73, 74, 75, 76, 77, 78, 79, 80, 81, 82, 83, 84, 85, 86, 87, 88, 89, 90, 91, 92, 93, 94, 95, 96, 97, 98, 99, 100, 101, 102, 103, 104, 105, 106, 107, 108, 109, 110, 111, 112, 113, 114, 115, 116, 117, 118, 119, 120, 121, 122, 123, 124, 125, 126, 127, 128, 129, 130, 131, 132, 133, 134, 135, 136, 137, 138, 139, 140, 141, 142, 143, 144, 145, 146, 147, 148, 149, 150, 151, 152, 153, 154, 155, 156, 157, 158, 159, 160, 161, 162, 163, 164, 165, 166, 167, 168, 169, 170, 171, 172, 173, 174] rfl (by decide +kernel)) (goodIn_sub (fun _ h => List.mem_cons_of_mem _ (List.mem_append_right _ h)) (by decide +kernel))
set_option maxRecDepth 20000 in
theorem gL_bottleneck_X11_bottleneck : GoodIn wsL_bottleneck (wsV RL 110 RX11 yX11_bottleneck wsX11_bottleneck) := goodIn_app (goodIn_of _ (by decide +kernel)) ggL_bottleneck_X11_bottleneck
theorem dL_bottleneck_0 : decode cL_bottleneck 0 = .ok (.aload_n 1, 1) := by decide +kernel
theorem dL_bottleneck_1 : decode cL_bottleneck 1 = .ok (.iconst 0, 1) := by decide +kernel
theorem dL_bottleneck_2 : decode cL_bottleneck 2 = .ok (.aload_n 0, 1) := by decide +kernel
theorem dL_bottleneck_3 : decode cL_bottleneck 3 = .ok (.invokevirtual 110, 3) := by decide +kernel
theorem dL_bottleneck_6 : decode cL_bottleneck 6 = .ok (.i2l, 1) := by decide +kernel
theorem dL_bottleneck_7 : decode cL_bottleneck 7 = .ok (.lastore, 1) := by decide +kernel
theorem dL_bottleneck_8 : decode cL_bottleneck 8 = .ok (.goto 6, 3) := by decide +kernel
theorem dL_bottleneck_11 : decode cL_bottleneck 11 = .ok (.astore_n 2, 1) := by decide +kernel
theorem dL_bottleneck_12 : decode cL_bottleneck 12 = .ok (.iconst 1, 1) := by decide +kernel
theorem dL_bottleneck_13 : decode cL_bottleneck 13 = .ok (.ireturn, 1) := by decide +kernel
theorem dL_bottleneck_14 : decode cL_bottleneck 14 = .ok (.iconst 0, 1) := by decide +kernel
theorem dL_bottleneck_15 : decode cL_bottleneck 15 = .ok (.ireturn, 1) := by decide +kernel
set_option maxRecDepth 20000 in
theorem ggL_pass_X11_pass : GoodIn wsL_pass wsX11_pass := goodIn_ca (goodIn_ca (goodIn_r _ [6, 7, 8, 9, 10, 11, 12, 13, 14, 15, 5, 16, 17, 18, 19, 20, 21, 22, 23, 24, 25, 26, 27, 28, 29, 30, 31, 32, 33, 34, 35, 36, 37, 38, 39, 40, 41, 42, 43, 44, 45, 46, 47, 48, 49, 50, 51, 52, 53, 54, 55, 56, 57, 58, 59, 60, 61, 62, 63, 64, 65, 66, 67, 68, 69, 70, 71, 72, 73, 74, 75, 76, 77, 78, 79, 80, 81, 82, 83, 84, 85, 86, 87, 88, 89, 90, 91, 92, 93, 94, 95, 96, 97, 98, 99, 100, 101, 102, 103, 104, 105, 106, 107, 108, 109, 110, 111, 112, 113, 114, 115, 116, 117, 118, 119, 120, 121, 122, 123, 124, 125, 126, 127, 128, 129, 130, 131, 132, 133, 134, 135, 136, 137, 138, 139, 140, 141, 142, 143, 144, 145, 146, 147, 148, 149, 150, 151, 152, 153, 154, 155, 156, 157, 158, 159, 160, 161, 162, 163, 164, 165, 166, 167, 168, 169, 170, 171, 172, 173, 174, 175, 176, 177, 178, 179, 180, 181, 182, 183, 184, 185, 186, 187, 188, 189, 190, 191, 192, 193] rfl (by decide +kernel)) (goodIn_sub (fun _ h => List.mem_cons_of_mem _ (List.mem_append_left _ (List.mem_append_right _ h))) (by decide +kernel))) (goodIn_sub (fun _ h => List.mem_cons_of_mem _ (List.mem_append_right _ h)) (by decide +kernel))
set_option maxRecDepth 20000 in
theorem gL_pass_X11_pass : GoodIn wsL_pass (wsV RL 113 RX11 yX11_pass wsX11_pass) := goodIn_app (goodIn_of _ (by decide +kernel)) ggL_pass_X11_pass
theorem dL_pass_0 : decode cL_pass 0 = .ok (.aload_n 2, 1) := by decide +kernel
theorem dL_pass_1 : decode cL_pass 1 = .ok (.iconst 0, 1) := by decide +kernel
theorem dL_pass_2 : decode cL_pass 2 = .ok (.aload_n 0, 1) := by decide +kernel
theorem dL_pass_3 : decode cL_pass 3 = .ok (.iload_n 1, 1) := by decide +kernel
theorem dL_pass_4 : decode cL_pass 4 = .ok (.invokevirtual 113, 3) := by decide +kernel
theorem dL_pass_7 : decode cL_pass 7 = .ok (.i2l, 1) := by decide +kernel
theorem dL_pass_8 : decode cL_pass 8 = .ok (.lastore, 1) := by decide +kernel
theorem dL_pass_9 : decode cL_pass 9 = .ok (.goto 9, 3) := by decide +kernel
theorem dL_pass_12 : decode cL_pass 12 = .ok (.astore_n 3, 1) := by decide +kernel
theorem dL_pass_13 : decode cL_pass 13 = .ok (.iconst 1, 1) := by decide +kernel
theorem dL_pass_14 : decode cL_pass 14 = .ok (.ireturn, 1) := by decide +kernel
theorem dL_pass_15 : decode cL_pass 15 = .ok (.astore_n 3, 1) := by decide +kernel
theorem dL_pass_16 : decode cL_pass 16 = .ok (.iconst 2, 1) := by decide +kernel
theorem dL_pass_17 : decode cL_pass 17 = .ok (.ireturn, 1) := by decide +kernel
theorem dL_pass_18 : decode cL_pass 18 = .ok (.iconst 0, 1) := by decide +kernel
theorem dL_pass_19 : decode cL_pass 19 = .ok (.ireturn, 1) := by decide +kernel
set_option maxRecDepth 20000 in
theorem ggL_addSalt_X11_addSalt : GoodIn wsL_addSalt wsX11_addSalt := goodIn_ca (goodIn_ca (goodIn_r _ [6, 7, 8, 9, 10, 11, 12, 13, 14, 15, 5, 16, 17, 18, 19, 20, 21, 22, 23, 24, 25, 26, 27, 28, 29, 30, 31, 32, 33, 34, 35, 36, 37, 38, 39, 40, 41, 42, 43, 44, 45, 46, 47, 48, 49, 50, 51, 52, 53, 54, 55, 56, 57, 58, 59, 60, 61, 62, 63, 64, 65, 66, 67, 68, 69, 70, 71, 72, 73, 74, 75, 76, 77, 78, 79, 80, 81, 82, 83, 84, 85, 86, 87, 88, 89, 90, 91, 92, 93, 94, 95, 96, 97, 98, 99, 100, 101, 102, 103, 104, 105, 106, 107, 108, 109, 110, 111, 112, 113, 114, 115, 116, 117, 118] rfl (by decide +kernel)) (goodIn_sub (fun _ h => List.mem_cons_of_mem _ (List.mem_append_left _ (List.mem_append_right _ h))) (by decide +kernel))) (goodIn_sub (fun _ h => List.mem_cons_of_mem _ (List.mem_append_right _ h)) (by decide +kernel))
set_option maxRecDepth 20000 in
theorem gL_addSalt_X11_addSalt : GoodIn wsL_addSalt (wsV RL 116 RX11 yX11_addSalt wsX11_addSalt) := goodIn_app (goodIn_of _ (by decide +kernel)) ggL_addSalt_X11_addSalt
theorem dL_addSalt_0 : decode cL_addSalt 0 = .ok (.aload_n 2, 1) := by decide +kernel
theorem dL_addSalt_1 : decode cL_addSalt 1 = .ok (.iconst 0, 1) := by decide +kernel
theorem dL_addSalt_2 : decode cL_addSalt 2 = .ok (.aload_n 0, 1) := by decide +kernel
theorem dL_addSalt_3 : decode cL_addSalt 3 = .ok (.iload_n 1, 1) := by decide +kernel
theorem dL_addSalt_4 : decode cL_addSalt 4 = .ok (.invokevirtual 116, 3) := by decide +kernel
theorem dL_addSalt_7 : decode cL_addSalt 7 = .ok (.i2l, 1) := by decide +kernel
theorem dL_addSalt_8 : decode cL_addSalt 8 = .ok (.lastore, 1) := by decide +kernel
theorem dL_addSalt_9 : decode cL_addSalt 9 = .ok (.goto 9, 3) := by decide +kernel
theorem dL_addSalt_12 : decode cL_addSalt 12 = .ok (.astore_n 3, 1) := by decide +kernel
theorem dL_addSalt_13 : decode cL_addSalt 13 = .ok (.iconst 1, 1) := by decide +kernel
theorem dL_addSalt_14 : decode cL_addSalt 14 = .ok (.ireturn, 1) := by decide +kernel
theorem dL_addSalt_15 : decode cL_addSalt 15 = .ok (.astore_n 3, 1) := by decide +kernel
theorem dL_addSalt_16 : decode cL_addSalt 16 = .ok (.iconst 2, 1) := by decide +kernel
theorem dL_addSalt_17 : decode cL_addSalt 17 = .ok (.ireturn, 1) := by decide +kernel
theorem dL_addSalt_18 : decode cL_addSalt 18 = .ok (.iconst 0, 1) := by decide +kernel
theorem dL_addSalt_19 : decode cL_addSalt 19 = .ok (.ireturn, 1) := by decide +kernel
set_option maxRecDepth 20000 in
theorem ggL_stop_X11_stop : GoodIn wsL_stop wsX11_stop := goodIn_ca (goodIn_ca (goodIn_r _ [6, 7, 8, 9, 10, 11, 12, 13, 5, 14, 15, 16, 17, 18, 19, 20, 21, 22, 23, 24, 25, 26, 27, 28, 29, 30, 31, 32, 33, 34, 35, 36, 37, 38, 39, 40, 41, 42, 43, 44, 45, 46, 47, 48, 49, 50, 51, 52, 53, 54, 55, 56, 57, 58, 59, 60, 61, 62, 63, 64, 65, 66, 67, 68, 69, 70, 71, 72, 73, 74, 75, 76, 77, 78, 79, 80, 81, 82, 83, 84, 85, 86, 87, 88, 89, 90, 91, 92, 93, 94, 95, 96, 97, 98, 99, 100, 101, 102, 103, 104, 105, 106, 107, 108, 109, 110, 111, 112, 113, 114, 115, 116] rfl (by decide +kernel)) (goodIn_sub (fun _ h => List.mem_cons_of_mem _ (List.mem_append_left _ (List.mem_append_right _ h))) (by decide +kernel))) (goodIn_sub (fun _ h => List.mem_cons_of_mem _ (List.mem_append_right _ h)) (by decide +kernel))
set_option maxRecDepth 20000 in
theorem gL_stop_X11_stop : GoodIn wsL_stop (wsV RL 119 RX11 yX11_stop wsX11_stop) := goodIn_app (goodIn_of _ (by decide +kernel)) ggL_stop_X11_stop
theorem dL_stop_0 : decode cL_stop 0 = .ok (.aload_n 2, 1) := by decide +kernel
theorem dL_stop_1 : decode cL_stop 1 = .ok (.iconst 0, 1) := by decide +kernel
theorem dL_stop_2 : decode cL_stop 2 = .ok (.aload_n 0, 1) := by decide +kernel
theorem dL_stop_3 : decode cL_stop 3 = .ok (.iload_n 1, 1) := by decide +kernel
theorem dL_stop_4 : decode cL_stop 4 = .ok (.invokevirtual 119, 3) := by decide +kernel
theorem dL_stop_7 : decode cL_stop 7 = .ok (.i2l, 1) := by decide +kernel
theorem dL_stop_8 : decode cL_stop 8 = .ok (.lastore, 1) := by decide +kernel
theorem dL_stop_9 : decode cL_stop 9 = .ok (.goto 9, 3) := by decide +kernel
theorem dL_stop_12 : decode cL_stop 12 = .ok (.astore_n 3, 1) := by decide +kernel
theorem dL_stop_13 : decode cL_stop 13 = .ok (.iconst 1, 1) := by decide +kernel
theorem dL_stop_14 : decode cL_stop 14 = .ok (.ireturn, 1) := by decide +kernel
theorem dL_stop_15 : decode cL_stop 15 = .ok (.astore_n 3, 1) := by decide +kernel
theorem dL_stop_16 : decode cL_stop 16 = .ok (.iconst 2, 1) := by decide +kernel
theorem dL_stop_17 : decode cL_stop 17 = .ok (.ireturn, 1) := by decide +kernel
theorem dL_stop_18 : decode cL_stop 18 = .ok (.iconst 0, 1) := by decide +kernel
theorem dL_stop_19 : decode cL_stop 19 = .ok (.ireturn, 1) := by decide +kernel
set_option maxRecDepth 20000 in
theorem ggL_redo_X11_redo : GoodIn wsL_redo wsX11_redo := goodIn_ca (goodIn_ca (goodIn_r _ [6, 7, 8, 9, 10, 11, 12, 13, 5, 14, 15, 16, 17, 18, 19, 20, 21, 22, 23, 24, 25, 26, 27, 28, 29, 30, 31, 32, 33, 34, 35, 36, 37, 38, 39, 40, 41, 42, 43, 44, 45, 46, 47, 48, 49, 50, 51, 52, 53, 54, 55, 56, 57, 58, 59, 60, 61, 62, 63, 64, 65, 66, 67, 68, 69, 70, 71, 72, 73, 74, 75, 76, 77, 78, 79, 80, 81, 82, 83, 84, 85, 86, 87, 88, 89, 90, 91, 92, 93, 94, 95, 96, 97, 98, 99, 100, 101, 102, 103, 104, 105, 106, 107, 108, 109, 110, 111, 112, 113, 114, 115, 116, 117, 118, 119, 120, 121, 122, 123, 124, 125, 126] rfl (by decide +kernel)) (goodIn_sub (fun _ h => List.mem_cons_of_mem _ (List.mem_append_left _ (List.mem_append_right _ h))) (by decide +kernel))) (goodIn_sub (fun _ h => List.mem_cons_of_mem _ (List.mem_append_right _ h)) (by decide +kernel))
set_option maxRecDepth 20000 in
theorem gL_redo_X11_redo : GoodIn wsL_redo (wsV RL 122 RX11 yX11_redo wsX11_redo) := goodIn_app (goodIn_of _ (by decide +kernel)) ggL_redo_X11_redo
theorem dL_redo_0 : decode cL_redo 0 = .ok (.aload_n 2, 1) := by decide +kernel
theorem dL_redo_1 : decode cL_redo 1 = .ok (.iconst 0, 1) := by decide +kernel
theorem dL_redo_2 : decode cL_redo 2 = .ok (.aload_n 0, 1) := by decide +kernel
theorem dL_redo_3 : decode cL_redo 3 = .ok (.iload_n 1, 1) := by decide +kernel
theorem dL_redo_4 : decode cL_redo 4 = .ok (.invokevirtual 122, 3) := by decide +kernel
theorem dL_redo_7 : decode cL_redo 7 = .ok (.i2l, 1) := by decide +kernel
theorem dL_redo_8 : decode cL_redo 8 = .ok (.lastore, 1) := by decide +kernel
theorem dL_redo_9 : decode cL_redo 9 = .ok (.goto 9, 3) := by decide +kernel
theorem dL_redo_12 : decode cL_redo 12 = .ok (.astore_n 3, 1) := by decide +kernel
theorem dL_redo_13 : decode cL_redo 13 = .ok (.iconst 1, 1) := by decide +kernel
theorem dL_redo_14 : decode cL_redo 14 = .ok (.ireturn, 1) := by decide +kernel
theorem dL_redo_15 : decode cL_redo 15 = .ok (.astore_n 3, 1) := by decide +kernel
theorem dL_redo_16 : decode cL_redo 16 = .ok (.iconst 2, 1) := by decide +kernel
theorem dL_redo_17 : decode cL_redo 17 = .ok (.ireturn, 1) := by decide +kernel
theorem dL_redo_18 : decode cL_redo 18 = .ok (.iconst 0, 1) := by decide +kernel
theorem dL_redo_19 : decode cL_redo 19 = .ok (.ireturn, 1) := by decide +kernel
set_option maxRecDepth 20000 in
theorem ggL_setCooks_X11_setCooks : GoodIn wsL_setCooks wsX11_setCooks := goodIn_ca (goodIn_r _ [6, 7, 8, 9, 10, 11, 5, 12, 13, 14, 15, 16, 17, 18, 19, 20, 21, 22, 23, 24, 25, 26, 27, 28, 29, 30, 31, 32, 33, 34, 35, 36, 37, 38, 39, 40, 41, 42, 43, 44, 45, 46, 47, 48, 49, 50, 51, 52, 53, 54, 55, 56, 57, 58, 59, 60, 61, 62, 63, 64, 65, 66, 67, 68, 69, 70, 71, 72, 73, 74, 75, 76, 77, 78, 79, 80, 81, 82, 83, 84, 85, 86, 87, 88, 89, 90, 91] rfl (by decide +kernel)) (goodIn_sub (fun _ h => List.mem_cons_of_mem _ (List.mem_append_right _ h)) (by decide +kernel))
set_option maxRecDepth 20000 in
theorem gL_setCooks_X11_setCooks : GoodIn wsL_setCooks (wsV RL 125 RX11 yX11_setCooks wsX11_setCooks) := goodIn_app (goodIn_of _ (by decide +kernel)) ggL_setCooks_X11_setCooks
theorem dL_setCooks_0 : decode cL_setCooks 0 = .ok (.aload_n 2, 1) := by decide +kernel
theorem dL_setCooks_1 : decode cL_setCooks 1 = .ok (.iconst 0, 1) := by decide +kernel
theorem dL_setCooks_2 : decode cL_setCooks 2 = .ok (.aload_n 0, 1) := by decide +kernel
theorem dL_setCooks_3 : decode cL_setCooks 3 = .ok (.iload_n 1, 1) := by decide +kernel
theorem dL_setCooks_4 : decode cL_setCooks 4 = .ok (.invokevirtual 125, 3) := by decide +kernel
theorem dL_setCooks_7 : decode cL_setCooks 7 = .ok (.i2l, 1) := by decide +kernel
theorem dL_setCooks_8 : decode cL_setCooks 8 = .ok (.lastore, 1) := by decide +kernel
theorem dL_setCooks_9 : decode cL_setCooks 9 = .ok (.goto 6, 3) := by decide +kernel
theorem dL_setCooks_12 : decode cL_setCooks 12 = .ok (.astore_n 3, 1) := by decide +kernel
theorem dL_setCooks_13 : decode cL_setCooks 13 = .ok (.iconst 1, 1) := by decide +kernel
theorem dL_setCooks_14 : decode cL_setCooks 14 = .ok (.ireturn, 1) := by decide +kernel
theorem dL_setCooks_15 : decode cL_setCooks 15 = .ok (.iconst 0, 1) := by decide +kernel
theorem dL_setCooks_16 : decode cL_setCooks 16 = .ok (.ireturn, 1) := by decide +kernel
set_option maxRecDepth 20000 in
theorem ggL_setDuration_X11_setDuration : GoodIn wsL_setDuration wsX11_setDuration := goodIn_ca (goodIn_ca (goodIn_r _ [6, 7, 8, 9, 10, 11, 12, 13, 5, 14, 15, 16, 17, 18, 19, 20, 21, 22, 23, 24, 25, 26, 27, 28, 29, 30, 31, 32, 33, 34, 35, 36, 37, 38, 39, 40, 41, 42, 43, 44, 45, 46, 47, 48, 49, 50, 51, 52, 53, 54, 55, 56, 57, 58, 59, 60, 61, 62, 63, 64, 65, 66, 67, 68, 69, 70, 71, 72, 73, 74, 75, 76, 77, 78, 79, 80, 81, 82, 83, 84, 85, 86, 87, 88, 89, 90, 91, 92, 93, 94, 95, 96, 97, 98, 99, 100, 101, 102, 103, 104, 105, 106, 107, 108, 109, 110, 111, 112, 113] rfl (by decide +kernel)) (goodIn_sub (fun _ h => List.mem_cons_of_mem _ (List.mem_append_left _ (List.mem_append_right _ h))) (by decide +kernel))) (goodIn_sub (fun _ h => List.mem_cons_of_mem _ (List.mem_append_right _ h)) (by decide +kernel))
set_option maxRecDepth 20000 in
theorem gL_setDuration_X11_setDuration : GoodIn wsL_setDuration (wsV RL 128 RX11 yX11_setDuration wsX11_setDuration) := goodIn_app (goodIn_of _ (by decide +kernel)) ggL_setDuration_X11_setDuration
theorem dL_setDuration_0 : decode cL_setDuration 0 = .ok (.aload_n 3, 1) := by decide +kernel
theorem dL_setDuration_1 : decode cL_setDuration 1 = .ok (.iconst 0, 1) := by decide +kernel
theorem dL_setDuration_2 : decode cL_setDuration 2 = .ok (.aload_n 0, 1) := by decide +kernel
theorem dL_setDuration_3 : decode cL_setDuration 3 = .ok (.iload_n 1, 1) := by decide +kernel
theorem dL_setDuration_4 : decode cL_setDuration 4 = .ok (.iload_n 2, 1) := by decide +kernel
theorem dL_setDuration_5 : decode cL_setDuration 5 = .ok (.invokevirtual 128, 3) := by decide +kernel
theorem dL_setDuration_8 : decode cL_setDuration 8 = .ok (.i2l, 1) := by decide +kernel
theorem dL_setDuration_9 : decode cL_setDuration 9 = .ok (.lastore, 1) := by decide +kernel
theorem dL_setDuration_10 : decode cL_setDuration 10 = .ok (.goto 11, 3) := by decide +kernel
theorem dL_setDuration_13 : decode cL_setDuration 13 = .ok (.astore 4, 2) := by decide +kernel
theorem dL_setDuration_15 : decode cL_setDuration 15 = .ok (.iconst 1, 1) := by decide +kernel
theorem dL_setDuration_16 : decode cL_setDuration 16 = .ok (.ireturn, 1) := by decide +kernel
theorem dL_setDuration_17 : decode cL_setDuration 17 = .ok (.astore 4, 2) := by decide +kernel
theorem dL_setDuration_19 : decode cL_setDuration 19 = .ok (.iconst 2, 1) := by decide +kernel
theorem dL_setDuration_20 : decode cL_setDuration 20 = .ok (.ireturn, 1) := by decide +kernel
theorem dL_setDuration_21 : decode cL_setDuration 21 = .ok (.iconst 0, 1) := by decide +kernel
theorem dL_setDuration_22 : decode cL_setDuration 22 = .ok (.ireturn, 1) := by decide +kernel
set_option maxRecDepth 20000 in
theorem ggL_serve_X11_serve : GoodIn wsL_serve wsX11_serve := goodIn_ca (goodIn_r _ [6, 7, 8, 9, 10, 11, 12, 13, 14, 15, 16, 17, 18, 19, 20, 21, 22, 23, 24, 25, 26, 27, 28, 5, 29, 30, 31, 32, 33, 34, 35, 36, 37, 38, 39, 40, 41, 42, 43, 44, 45, 46, 47, 48, 49, 50, 51, 52, 53, 54, 55, 56, 57, 58, 59, 60, 61, 62, 63, 64, 65, 66, 67, 68, 69, 70, 71, 72, 73, 74, 75, 76, 77, 78, 79, 80, 81, 82, 83, 84, 85, 86, 87, 88, 89, 90, 91, 92, 93, 94, 95, 96, 97, 98, 99, 100, 101, 102, 103, 104, 105, 106, 107, 108, 109, 110, 111, 112, 113, 114, 115, 116, 117, 118, 119, 120] rfl (by decide +kernel)) (goodIn_sub (fun _ h => List.mem_cons_of_mem _ (List.mem_append_right _ h)) (by decide +kernel))
set_option maxRecDepth 20000 in
theorem gL_serve_X11_serve : GoodIn wsL_serve (wsV RL 131 RX11 yX11_serve wsX11_serve) := goodIn_app (goodIn_of _ (by decide +kernel)) ggL_serve_X11_serve
theorem dL_serve_0 : decode cL_serve 0 = .ok (.aload_n 1, 1) := by decide +kernel
theorem dL_serve_1 : decode cL_serve 1 = .ok (.iconst 0, 1) := by decide +kernel
theorem dL_serve_2 : decode cL_serve 2 = .ok (.aload_n 0, 1) := by decide +kernel
theorem dL_serve_3 : decode cL_serve 3 = .ok (.invokevirtual 131, 3) := by decide +kernel
theorem dL_serve_6 : decode cL_serve 6 = .ok (.i2l, 1) := by decide +kernel
theorem dL_serve_7 : decode cL_serve 7 = .ok (.lastore, 1) := by decide +kernel
theorem dL_serve_8 : decode cL_serve 8 = .ok (.goto 6, 3) := by decide +kernel
theorem dL_serve_11 : decode cL_serve 11 = .ok (.astore_n 2, 1) := by decide +kernel
theorem dL_serve_12 : decode cL_serve 12 = .ok (.iconst 1, 1) := by decide +kernel
theorem dL_serve_13 : decode cL_serve 13 = .ok (.ireturn, 1) := by decide +kernel
theorem dL_serve_14 : decode cL_serve 14 = .ok (.iconst 0, 1) := by decide +kernel
theorem dL_serve_15 : decode cL_serve 15 = .ok (.ireturn, 1) := by decide +kernel
set_option maxRecDepth 20000 in
theorem ggL_runScript_X11_runScript : GoodIn wsL_runScript wsX11_runScript := goodIn_ca (goodIn_r _ [6, 7, 8, 9, 10, 11, 12, 13, 14, 15, 16, 17, 18, 19, 20, 21, 22, 23, 24, 25, 26, 27, 28, 29, 30, 31, 32, 33, 34, 35, 36, 5, 37, 38, 39, 40, 41, 42, 43, 44, 45, 46, 47, 48, 49, 50, 51, 52, 53, 54, 55, 56, 57, 58, 59, 60, 61, 62, 63, 64, 65, 66, 67, 68, 69, 70, 71, 72, 73, 74, 75, 76, 77, 78, 79, 80, 81, 82, 83, 84, 85, 86, 87, 88, 89, 90, 91, 92, 93, 94, 95, 96, 97, 98, 99, 100, 101, 102, 103, 104, 105, 106, 107, 108, 109, 110, 111, 112, 113, 114, 115, 116, 117, 118, 119, 120, 121, 122, 123, 124, 125, 126, 127, 128, 129, 130, 131, 132, 133, 134, 135, 136, 137, 138, 139, 140, 141, 142, 143, 144, 145, 146, 147, 148, 149, 150, 151, 152, 153, 154, 155, 156, 157, 158, 159, 160, 161, 162, 163, 164, 165, 166, 167, 168, 169, 170, 171, 172, 173, 174, 175, 176, 177, 178, 179, 180, 181, 182, 183, 184, 185, 186, 187, 188, 189, 190, 191, 192, 193, 194, 195, 196, 197, 198, 199, 200, 201, 202, 203, 204, 205, 206, 207, 208, 209, 210, 211, 212, 213, 214, 215, 216, 217, 218, 219, 220, 221, 222, 223, 224, 225, 226, 227, 228, 229, 230, 231, 232, 233, 234, 235, 236, 237, 238, 239, 240, 241, 242, 243, 244, 245, 246, 247, 248, 249, 250, 251, 252, 253, 254, 255, 256, 257, 258, 259, 260, 261, 262, 263, 264, 265, 266, 267, 268, 269, 270, 271, 272, 273, 274, 275, 276, 277, 278, 279, 280, 281, 282, 283, 284, 285, 286, 287, 288, 289, 290, 291, 292, 293, 294, 295, 296, 297, 298, 299, 300, 301, 302, 303, 304, 305, 306, 307, 308, 309, 310, 311, 312, 313, 314, 315, 316, 317, 318, 319, 320, 321, 322, 323, 324, 325, 326, 327, 328, 329, 330, 331, 332, 333, 334, 335, 336, 337, 338, 339, 340, 341, 342, 343, 344, 345, 346, 347, 348, 349, 350, 351, 352, 353, 354, 355, 356, 357, 358, 359, 360, 361, 362, 363, 364, 365, 366, 367, 368, 369, 370, 371, 372, 373, 374, 375, 376, 377, 378, 379, 380, 381, 382, 383, 384, 385, 386, 387, 388, 389, 390, 391] rfl (by decide +kernel)) (goodIn_sub (fun _ h => List.mem_cons_of_mem _ (List.mem_append_right _ h)) (by decide +kernel))
set_option maxRecDepth 20000 in
theorem gL_runScript_X11_runScript : GoodIn wsL_runScript (wsV RL 134 RX11 yX11_runScript wsX11_runScript) := goodIn_app (goodIn_of _ (by decide +kernel)) ggL_runScript_X11_runScript
theorem dL_runScript_0 : decode cL_runScript 0 = .ok (.aload_n 1, 1) := by decide +kernel
theorem dL_runScript_1 : decode cL_runScript 1 = .ok (.iconst 0, 1) := by decide +kernel
theorem dL_runScript_2 : decode cL_runScript 2 = .ok (.aload_n 0, 1) := by decide +kernel
theorem dL_runScript_3 : decode cL_runScript 3 = .ok (.invokevirtual 134, 3) := by decide +kernel
theorem dL_runScript_6 : decode cL_runScript 6 = .ok (.i2l, 1) := by decide +kernel
theorem dL_runScript_7 : decode cL_runScript 7 = .ok (.lastore, 1) := by decide +kernel
theorem dL_runScript_8 : decode cL_runScript 8 = .ok (.goto 6, 3) := by decide +kernel
theorem dL_runScript_11 : decode cL_runScript 11 = .ok (.astore_n 2, 1) := by decide +kernel
theorem dL_runScript_12 : decode cL_runScript 12 = .ok (.iconst 1, 1) := by decide +kernel
theorem dL_runScript_13 : decode cL_runScript 13 = .ok (.ireturn, 1) := by decide +kernel
theorem dL_runScript_14 : decode cL_runScript 14 = .ok (.iconst 0, 1) := by decide +kernel
theorem dL_runScript_15 : decode cL_runScript 15 = .ok (.ireturn, 1) := by decide +kernel
set_option maxRecDepth 20000 in
theorem ggL_undo_X11_undo : GoodIn wsL_undo wsX11_undo := goodIn_ca (goodIn_r _ [6, 7, 8, 9, 10, 11, 12, 13, 14, 15, 16, 17, 18, 19, 20, 21, 22, 23, 24, 25, 26, 27, 28, 29, 30, 31, 32, 33, 34, 35, 36, 37, 38, 39, 40, 41, 42, 43, 44, 45, 46, 47, 48, 49, 50, 51, 52, 53, 54, 55, 56, 57, 58, 59, 60, 61, 62, 63, 64, 65, 66, 67, 68, 69, 70, 71, 72, 73, 74, 75, 76] rfl (by decide +kernel)) (goodIn_sub (fun _ h => List.mem_cons_of_mem _ (List.mem_append_right _ h)) (by decide +kernel))
set_option maxRecDepth 20000 in
theorem gL_undo_X11_undo : GoodIn wsL_undo (wsV RL 137 RX11 yX11_undo wsX11_undo) := goodIn_app (goodIn_of _ (by decide +kernel)) ggL_undo_X11_undo
theorem dL_undo_0 : decode cL_undo 0 = .ok (.aload_n 1, 1) := by decide +kernel
theorem dL_undo_1 : decode cL_undo 1 = .ok (.iconst 0, 1) := by decide +kernel
theorem dL_undo_2 : decode cL_undo 2 = .ok (.aload_n 0, 1) := by decide +kernel
theorem dL_undo_3 : decode cL_undo 3 = .ok (.invokevirtual 137, 3) := by decide +kernel
theorem dL_undo_6 : decode cL_undo 6 = .ok (.i2l, 1) := by decide +kernel
theorem dL_undo_7 : decode cL_undo 7 = .ok (.lastore, 1) := by decide +kernel
theorem dL_undo_8 : decode cL_undo 8 = .ok (.goto 6, 3) := by decide +kernel
theorem dL_undo_11 : decode cL_undo 11 = .ok (.astore_n 2, 1) := by decide +kernel
theorem dL_undo_12 : decode cL_undo 12 = .ok (.iconst 1, 1) := by decide +kernel
theorem dL_undo_13 : decode cL_undo 13 = .ok (.ireturn, 1) := by decide +kernel
theorem dL_undo_14 : decode cL_undo 14 = .ok (.iconst 0, 1) := by decide +kernel
theorem dL_undo_15 : decode cL_undo 15 = .ok (.ireturn, 1) := by decide +kernel
set_option maxRecDepth 20000 in
theorem ggL_save_X11_save : GoodIn wsL_save wsX11_save := goodIn_ca (goodIn_r _ [6, 7, 8, 9, 10, 11, 12, 5, 13, 14, 15, 16, 17, 18, 19, 20, 21, 22, 23, 24, 25, 26, 27, 28, 29, 30, 31, 32, 33, 34, 35, 36, 37, 38, 39, 40, 41, 42, 43, 44, 45, 46, 47, 48, 49, 50, 51, 52, 53, 54, 55, 56, 57, 58, 59, 60, 61, 62, 63, 64, 65, 66, 67, 68, 69, 70, 71, 72, 73] rfl (by decide +kernel)) (goodIn_sub (fun _ h => List.mem_cons_of_mem _ (List.mem_append_right _ h)) (by decide +kernel))
set_option maxRecDepth 20000 in
theorem gL_save_X11_save : GoodIn wsL_save (wsV RL 140 RX11 yX11_save wsX11_save) := goodIn_app (goodIn_of _ (by decide +kernel)) ggL_save_X11_save
theorem dL_save_0 : decode cL_save 0 = .ok (.aload_n 2, 1) := by decide +kernel
theorem dL_save_1 : decode cL_save 1 = .ok (.iconst 0, 1) := by decide +kernel
theorem dL_save_2 : decode cL_save 2 = .ok (.aload_n 0, 1) := by decide +kernel
theorem dL_save_3 : decode cL_save 3 = .ok (.iload_n 1, 1) := by decide +kernel
theorem dL_save_4 : decode cL_save 4 = .ok (.invokevirtual 140, 3) := by decide +kernel
theorem dL_save_7 : decode cL_save 7 = .ok (.i2l, 1) := by decide +kernel
theorem dL_save_8 : decode cL_save 8 = .ok (.lastore, 1) := by decide +kernel
theorem dL_save_9 : decode cL_save 9 = .ok (.goto 6, 3) := by decide +kernel
theorem dL_save_12 : decode cL_save 12 = .ok (.astore_n 3, 1) := by decide +kernel
theorem dL_save_13 : decode cL_save 13 = .ok (.iconst 1, 1) := by decide +kernel
theorem dL_save_14 : decode cL_save 14 = .ok (.ireturn, 1) := by decide +kernel
theorem dL_save_15 : decode cL_save 15 = .ok (.iconst 0, 1) := by decide +kernel
theorem dL_save_16 : decode cL_save 16 = .ok (.ireturn, 1) := by decide +kernel
set_option maxRecDepth 20000 in
theorem ggL_restore_X11_restore : GoodIn wsL_restore wsX11_restore := goodIn_ca (goodIn_ca (goodIn_r _ [6, 7, 8, 9, 10, 11, 12, 13, 14, 15, 5, 16, 17, 18, 19, 20, 21, 22, 23, 24, 25, 26, 27, 28, 29, 30, 31, 32, 33, 34, 35, 36, 37, 38, 39, 40, 41, 42, 43, 44, 45, 46, 47, 48, 49, 50, 51, 52, 53, 54, 55, 56, 57, 58, 59, 60, 61, 62, 63, 64, 65, 66, 67, 68, 69, 70, 71, 72, 73, 74, 75, 76, 77, 78, 79] rfl (by decide +kernel)) (goodIn_sub (fun _ h => List.mem_cons_of_mem _ (List.mem_append_left _ (List.mem_append_right _ h))) (by decide +kernel))) (goodIn_sub (fun _ h => List.mem_cons_of_mem _ (List.mem_append_right _ h)) (by decide +kernel))
set_option maxRecDepth 20000 in
theorem gL_restore_X11_restore : GoodIn wsL_restore (wsV RL 143 RX11 yX11_restore wsX11_restore) := goodIn_app (goodIn_of _ (by decide +kernel)) ggL_restore_X11_restore
theorem dL_restore_0 : decode cL_restore 0 = .ok (.aload_n 2, 1) := by decide +kernel
theorem dL_restore_1 : decode cL_restore 1 = .ok (.iconst 0, 1) := by decide +kernel
theorem dL_restore_2 : decode cL_restore 2 = .ok (.aload_n 0, 1) := by decide +kernel
theorem dL_restore_3 : decode cL_restore 3 = .ok (.iload_n 1, 1) := by decide +kernel
theorem dL_restore_4 : decode cL_restore 4 = .ok (.invokevirtual 143, 3) := by decide +kernel
theorem dL_restore_7 : decode cL_restore 7 = .ok (.i2l, 1) := by decide +kernel
theorem dL_restore_8 : decode cL_restore 8 = .ok (.lastore, 1) := by decide +kernel
theorem dL_restore_9 : decode cL_restore 9 = .ok (.goto 9, 3) := by decide +kernel
theorem dL_restore_12 : decode cL_restore 12 = .ok (.astore_n 3, 1) := by decide +kernel
theorem dL_restore_13 : decode cL_restore 13 = .ok (.iconst 1, 1) := by decide +kernel
theorem dL_restore_14 : decode cL_restore 14 = .ok (.ireturn, 1) := by decide +kernel
theorem dL_restore_15 : decode cL_restore 15 = .ok (.astore_n 3, 1) := by decide +kernel
theorem dL_restore_16 : decode cL_restore 16 = .ok (.iconst 2, 1) := by decide +kernel
theorem dL_restore_17 : decode cL_restore 17 = .ok (.ireturn, 1) := by decide +kernel
theorem dL_restore_18 : decode cL_restore 18 = .ok (.iconst 0, 1) := by decide +kernel
theorem dL_restore_19 : decode cL_restore 19 = .ok (.ireturn, 1) := by decide +kernel
set_option maxRecDepth 20000 in
theorem ggL_outputByte_X11_outputByte : GoodIn wsL_outputByte wsX11_outputByte := goodIn_ca (goodIn_r _ [6, 7, 8, 9, 10, 11, 5, 12, 13, 14, 15, 16, 17, 18, 19, 20, 21, 22, 23, 24, 25] rfl (by decide +kernel)) (goodIn_sub (fun _ h => List.mem_cons_of_mem _ (List.mem_append_right _ h)) (by decide +kernel))
set_option maxRecDepth 20000 in
theorem gL_outputByte_X11_outputByte : GoodIn wsL_outputByte (wsV RL 146 RX11 yX11_outputByte wsX11_outputByte) := goodIn_app (goodIn_of _ (by decide +kernel)) ggL_outputByte_X11_outputByte
theorem dL_outputByte_0 : decode cL_outputByte 0 = .ok (.aload_n 2, 1) := by decide +kernel
theorem dL_outputByte_1 : decode cL_outputByte 1 = .ok (.iconst 0, 1) := by decide +kernel
theorem dL_outputByte_2 : decode cL_outputByte 2 = .ok (.aload_n 0, 1) := by decide +kernel
theorem dL_outputByte_3 : decode cL_outputByte 3 = .ok (.iload_n 1, 1) := by decide +kernel
theorem dL_outputByte_4 : decode cL_outputByte 4 = .ok (.invokevirtual 146, 3) := by decide +kernel
theorem dL_outputByte_7 : decode cL_outputByte 7 = .ok (.i2l, 1) := by decide +kernel
theorem dL_outputByte_8 : decode cL_outputByte 8 = .ok (.lastore, 1) := by decide +kernel
theorem dL_outputByte_9 : decode cL_outputByte 9 = .ok (.goto 6, 3) := by decide +kernel
theorem dL_outputByte_12 : decode cL_outputByte 12 = .ok (.astore_n 3, 1) := by decide +kernel
theorem dL_outputByte_13 : decode cL_outputByte 13 = .ok (.iconst 1, 1) := by decide +kernel
theorem dL_outputByte_14 : decode cL_outputByte 14 = .ok (.ireturn, 1) := by decide +kernel
theorem dL_outputByte_15 : decode cL_outputByte 15 = .ok (.iconst 0, 1) := by decide +kernel
theorem dL_outputByte_16 : decode cL_outputByte 16 = .ok (.ireturn, 1) := by decide +kernel
