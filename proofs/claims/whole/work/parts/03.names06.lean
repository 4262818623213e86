theorem dX11_runScript_1 : decode cX11_runScript 1 = .ok (.getfield 59, 3) := by decide +kernel
theorem dX11_runScript_4 : decode cX11_runScript 4 = .ok (.aload_n 0, 1) := by decide +kernel
theorem dX11_runScript_5 : decode cX11_runScript 5 = .ok (.getfield 67, 3) := by decide +kernel
theorem dX11_runScript_8 : decode cX11_runScript 8 = .ok (.getfield 117, 3) := by decide +kernel
theorem dX11_runScript_11 : decode cX11_runScript 11 = .ok (.getfield 126, 3) := by decide +kernel
theorem dX11_runScript_14 : decode cX11_runScript 14 = .ok (.invokevirtual 376, 3) := by decide +kernel
theorem dX11_runScript_17 : decode cX11_runScript 17 = .ok (.aload_n 0, 1) := by decide +kernel
theorem dX11_runScript_18 : decode cX11_runScript 18 = .ok (.getfield 41, 3) := by decide +kernel
theorem dX11_runScript_21 : decode cX11_runScript 21 = .ok (.iconst 0, 1) := by decide +kernel
theorem dX11_runScript_22 : decode cX11_runScript 22 = .ok (.putfield 37, 3) := by decide +kernel
theorem dX11_runScript_25 : decode cX11_runScript 25 = .ok (.aload_n 0, 1) := by decide +kernel
theorem dX11_runScript_26 : decode cX11_runScript 26 = .ok (.invokevirtual 114, 3) := by decide +kernel
theorem dX11_runScript_29 : decode cX11_runScript 29 = .ok (.aload_n 0, 1) := by decide +kernel
theorem dX11_runScript_30 : decode cX11_runScript 30 = .ok (.getfield 77, 3) := by decide +kernel
theorem dX11_runScript_33 : decode cX11_runScript 33 = .ok (.aload_n 0, 1) := by decide +kernel
theorem dX11_runScript_34 : decode cX11_runScript 34 = .ok (.getfield 67, 3) := by decide +kernel
theorem dX11_runScript_37 : decode cX11_runScript 37 = .ok (.getfield 139, 3) := by decide +kernel
theorem dX11_runScript_40 : decode cX11_runScript 40 = .ok (.invokevirtual 341, 3) := by decide +kernel
theorem dX11_runScript_43 : decode cX11_runScript 43 = .ok (.iconst 0, 1) := by decide +kernel
theorem dX11_runScript_44 : decode cX11_runScript 44 = .ok (.istore_n 1, 1) := by decide +kernel
theorem dX11_runScript_45 : decode cX11_runScript 45 = .ok (.iload_n 1, 1) := by decide +kernel
theorem dX11_runScript_46 : decode cX11_runScript 46 = .ok (.aload_n 0, 1) := by decide +kernel
theorem dX11_runScript_47 : decode cX11_runScript 47 = .ok (.getfield 59, 3) := by decide +kernel
theorem dX11_runScript_50 : decode cX11_runScript 50 = .ok (.getfield 380, 3) := by decide +kernel
theorem dX11_runScript_53 : decode cX11_runScript 53 = .ok (.if_icmp .ge 61, 3) := by decide +kernel
theorem dX11_runScript_56 : decode cX11_runScript 56 = .ok (.aload_n 0, 1) := by decide +kernel
theorem dX11_runScript_57 : decode cX11_runScript 57 = .ok (.getfield 59, 3) := by decide +kernel
theorem dX11_runScript_60 : decode cX11_runScript 60 = .ok (.getfield 381, 3) := by decide +kernel
theorem dX11_runScript_63 : decode cX11_runScript 63 = .ok (.iload_n 1, 1) := by decide +kernel
theorem dX11_runScript_64 : decode cX11_runScript 64 = .ok (.aaload, 1) := by decide +kernel
theorem dX11_runScript_65 : decode cX11_runScript 65 = .ok (.astore_n 2, 1) := by decide +kernel
theorem dX11_runScript_66 : decode cX11_runScript 66 = .ok (.aload_n 0, 1) := by decide +kernel
theorem dX11_runScript_67 : decode cX11_runScript 67 = .ok (.getfield 59, 3) := by decide +kernel
theorem dX11_runScript_70 : decode cX11_runScript 70 = .ok (.getfield 385, 3) := by decide +kernel
theorem dX11_runScript_73 : decode cX11_runScript 73 = .ok (.iload_n 1, 1) := by decide +kernel
theorem dX11_runScript_74 : decode cX11_runScript 74 = .ok (.iaload, 1) := by decide +kernel
theorem dX11_runScript_75 : decode cX11_runScript 75 = .ok (.istore_n 3, 1) := by decide +kernel
theorem dX11_runScript_76 : decode cX11_runScript 76 = .ok (.aload_n 0, 1) := by decide +kernel
theorem dX11_runScript_77 : decode cX11_runScript 77 = .ok (.getfield 59, 3) := by decide +kernel
theorem dX11_runScript_80 : decode cX11_runScript 80 = .ok (.getfield 387, 3) := by decide +kernel
theorem dX11_runScript_83 : decode cX11_runScript 83 = .ok (.iload_n 1, 1) := by decide +kernel
theorem dX11_runScript_84 : decode cX11_runScript 84 = .ok (.iaload, 1) := by decide +kernel
theorem dX11_runScript_85 : decode cX11_runScript 85 = .ok (.istore 4, 2) := by decide +kernel
theorem dX11_runScript_87 : decode cX11_runScript 87 = .ok (.aload_n 0, 1) := by decide +kernel
theorem dX11_runScript_88 : decode cX11_runScript 88 = .ok (.aload_n 2, 1) := by decide +kernel
theorem dX11_runScript_89 : decode cX11_runScript 89 = .ok (.iload_n 3, 1) := by decide +kernel
theorem dX11_runScript_90 : decode cX11_runScript 90 = .ok (.iload 4, 2) := by decide +kernel
theorem dX11_runScript_92 : decode cX11_runScript 92 = .ok (.invokevirtual 390, 3) := by decide +kernel
theorem dX11_runScript_95 : decode cX11_runScript 95 = .ok (.ifCond .ne 5, 3) := by decide +kernel
theorem dX11_runScript_98 : decode cX11_runScript 98 = .ok (.iload_n 1, 1) := by decide +kernel
theorem dX11_runScript_99 : decode cX11_runScript 99 = .ok (.ireturn, 1) := by decide +kernel
theorem dX11_runScript_100 : decode cX11_runScript 100 = .ok (.aload_n 0, 1) := by decide +kernel
theorem dX11_runScript_101 : decode cX11_runScript 101 = .ok (.aload_n 2, 1) := by decide +kernel
theorem dX11_runScript_102 : decode cX11_runScript 102 = .ok (.iload_n 3, 1) := by decide +kernel
theorem dX11_runScript_103 : decode cX11_runScript 103 = .ok (.iload 4, 2) := by decide +kernel
theorem dX11_runScript_105 : decode cX11_runScript 105 = .ok (.invokevirtual 394, 3) := by decide +kernel
theorem dX11_runScript_108 : decode cX11_runScript 108 = .ok (.iinc 1 1, 3) := by decide +kernel
theorem dX11_runScript_111 : decode cX11_runScript 111 = .ok (.goto (-66), 3) := by decide +kernel
theorem dX11_runScript_114 : decode cX11_runScript 114 = .ok (.aload_n 0, 1) := by decide +kernel
theorem dX11_runScript_115 : decode cX11_runScript 115 = .ok (.getfield 59, 3) := by decide +kernel
theorem dX11_runScript_118 : decode cX11_runScript 118 = .ok (.getfield 380, 3) := by decide +kernel
theorem dX11_runScript_121 : decode cX11_runScript 121 = .ok (.ireturn, 1) := by decide +kernel
set_option maxRecDepth 20000 in
theorem ggX11_undo_X2_popInto : GoodIn wsX11_undo wsX2_popInto := goodIn_r _ [9, 10, 11, 12, 13, 14, 15, 16, 17, 18, 19, 20, 21, 22, 23, 24, 25, 26, 27, 28, 29, 30, 31, 32, 33, 34, 35, 36, 48, 49, 50, 56, 57, 58, 59, 60, 61, 62, 63, 64, 65, 66, 67, 68, 69, 70] rfl (by decide +kernel)
set_option maxRecDepth 20000 in
theorem gX11_undo_X2_popInto : GoodIn wsX11_undo (wsV RX11 400 RX2 yX2_popInto wsX2_popInto) := goodIn_app (goodIn_of _ (by decide +kernel)) ggX11_undo_X2_popInto
theorem dX11_undo_0 : decode cX11_undo 0 = .ok (.aload_n 0, 1) := by decide +kernel
theorem dX11_undo_1 : decode cX11_undo 1 = .ok (.getfield 77, 3) := by decide +kernel
theorem dX11_undo_4 : decode cX11_undo 4 = .ok (.getfield 123, 3) := by decide +kernel
theorem dX11_undo_7 : decode cX11_undo 7 = .ok (.ifCond .ne 14, 3) := by decide +kernel
theorem dX11_undo_10 : decode cX11_undo 10 = .ok (.new 96, 3) := by decide +kernel
theorem dX11_undo_13 : decode cX11_undo 13 = .ok (.dup, 1) := by decide +kernel
theorem dX11_undo_14 : decode cX11_undo 14 = .ok (.ldc_w 398, 3) := by decide +kernel
theorem dX11_undo_17 : decode cX11_undo 17 = .ok (.invokespecial 100, 3) := by decide +kernel
theorem dX11_undo_20 : decode cX11_undo 20 = .ok (.athrow, 1) := by decide +kernel
theorem dX11_undo_21 : decode cX11_undo 21 = .ok (.aload_n 0, 1) := by decide +kernel
theorem dX11_undo_22 : decode cX11_undo 22 = .ok (.getfield 77, 3) := by decide +kernel
theorem dX11_undo_25 : decode cX11_undo 25 = .ok (.aload_n 0, 1) := by decide +kernel
theorem dX11_undo_26 : decode cX11_undo 26 = .ok (.getfield 67, 3) := by decide +kernel
theorem dX11_undo_29 : decode cX11_undo 29 = .ok (.getfield 139, 3) := by decide +kernel
theorem dX11_undo_32 : decode cX11_undo 32 = .ok (.invokevirtual 400, 3) := by decide +kernel
theorem dX11_undo_35 : decode cX11_undo 35 = .ok (.aload_n 0, 1) := by decide +kernel
theorem dX11_undo_36 : decode cX11_undo 36 = .ok (.getfield 77, 3) := by decide +kernel
theorem dX11_undo_39 : decode cX11_undo 39 = .ok (.getfield 123, 3) := by decide +kernel
theorem dX11_undo_42 : decode cX11_undo 42 = .ok (.ireturn, 1) := by decide +kernel
set_option maxRecDepth 20000 in
theorem ggX11_save_X11_requireSlot : GoodIn wsX11_save wsX11_requireSlot := goodIn_ca (goodIn_r _ [8, 9, 10, 11, 12, 7, 13] rfl (by decide +kernel)) (goodIn_sub (fun _ h => List.mem_cons_of_mem _ (List.mem_append_right _ h)) (by decide +kernel))
set_option maxRecDepth 20000 in
theorem gX11_save_X11_requireSlot : GoodIn wsX11_save (wsV RX11 403 RX11 yX11_requireSlot wsX11_requireSlot) := goodIn_app (goodIn_of _ (by decide +kernel)) ggX11_save_X11_requireSlot
set_option maxRecDepth 20000 in
theorem ggX11_save_X8_copyFrom : GoodIn wsX11_save wsX8_copyFrom := goodIn_r _ [18, 19, 20, 21, 22, 23, 24, 25, 26, 27, 28, 29, 30, 31, 32, 33, 34, 35, 36, 37, 54, 55, 56, 57, 58, 59, 60, 61, 62, 63, 64, 65, 66, 67, 68] rfl (by decide +kernel)
set_option maxRecDepth 20000 in
theorem gX11_save_X8_copyFrom : GoodIn wsX11_save (wsV RX11 406 RX8 yX8_copyFrom wsX8_copyFrom) := goodIn_app (goodIn_of _ (by decide +kernel)) ggX11_save_X8_copyFrom
theorem dX11_save_0 : decode cX11_save 0 = .ok (.aload_n 0, 1) := by decide +kernel
theorem dX11_save_1 : decode cX11_save 1 = .ok (.iload_n 1, 1) := by decide +kernel
theorem dX11_save_2 : decode cX11_save 2 = .ok (.invokevirtual 403, 3) := by decide +kernel
theorem dX11_save_5 : decode cX11_save 5 = .ok (.aload_n 0, 1) := by decide +kernel
theorem dX11_save_6 : decode cX11_save 6 = .ok (.getfield 83, 3) := by decide +kernel
theorem dX11_save_9 : decode cX11_save 9 = .ok (.iload_n 1, 1) := by decide +kernel
theorem dX11_save_10 : decode cX11_save 10 = .ok (.aaload, 1) := by decide +kernel
theorem dX11_save_11 : decode cX11_save 11 = .ok (.aload_n 0, 1) := by decide +kernel
theorem dX11_save_12 : decode cX11_save 12 = .ok (.getfield 67, 3) := by decide +kernel
theorem dX11_save_15 : decode cX11_save 15 = .ok (.getfield 139, 3) := by decide +kernel
theorem dX11_save_18 : decode cX11_save 18 = .ok (.invokevirtual 406, 3) := by decide +kernel
theorem dX11_save_21 : decode cX11_save 21 = .ok (.aload_n 0, 1) := by decide +kernel
theorem dX11_save_22 : decode cX11_save 22 = .ok (.getfield 88, 3) := by decide +kernel
theorem dX11_save_25 : decode cX11_save 25 = .ok (.iload_n 1, 1) := by decide +kernel
theorem dX11_save_26 : decode cX11_save 26 = .ok (.iconst 1, 1) := by decide +kernel
theorem dX11_save_27 : decode cX11_save 27 = .ok (.bastore, 1) := by decide +kernel
theorem dX11_save_28 : decode cX11_save 28 = .ok (.aload_n 0, 1) := by decide +kernel
theorem dX11_save_29 : decode cX11_save 29 = .ok (.getfield 67, 3) := by decide +kernel
theorem dX11_save_32 : decode cX11_save 32 = .ok (.getfield 139, 3) := by decide +kernel
theorem dX11_save_35 : decode cX11_save 35 = .ok (.getfield 146, 3) := by decide +kernel
theorem dX11_save_38 : decode cX11_save 38 = .ok (.ireturn, 1) := by decide +kernel
set_option maxRecDepth 20000 in
theorem ggX11_restore_X11_requireSlot : GoodIn wsX11_restore wsX11_requireSlot := goodIn_ca (goodIn_r _ [11, 12, 13, 14, 15, 10, 16] rfl (by decide +kernel)) (goodIn_sub (fun _ h => List.mem_cons_of_mem _ (List.mem_append_right _ h)) (by decide +kernel))
set_option maxRecDepth 20000 in
theorem gX11_restore_X11_requireSlot : GoodIn wsX11_restore (wsV RX11 403 RX11 yX11_requireSlot wsX11_requireSlot) := goodIn_app (goodIn_of _ (by decide +kernel)) ggX11_restore_X11_requireSlot
set_option maxRecDepth 20000 in
theorem ggX11_restore_X8_copyFrom : GoodIn wsX11_restore wsX8_copyFrom := goodIn_r _ [21, 22, 23, 24, 25, 26, 27, 28, 29, 30, 31, 32, 33, 34, 35, 36, 37, 38, 39, 40, 60, 61, 62, 63, 64, 65, 66, 67, 68, 69, 70, 71, 72, 73, 74] rfl (by decide +kernel)
set_option maxRecDepth 20000 in
theorem gX11_restore_X8_copyFrom : GoodIn wsX11_restore (wsV RX11 406 RX8 yX8_copyFrom wsX8_copyFrom) := goodIn_app (goodIn_of _ (by decide +kernel)) ggX11_restore_X8_copyFrom
theorem dX11_restore_0 : decode cX11_restore 0 = .ok (.aload_n 0, 1) := by decide +kernel
theorem dX11_restore_1 : decode cX11_restore 1 = .ok (.iload_n 1, 1) := by decide +kernel
theorem dX11_restore_2 : decode cX11_restore 2 = .ok (.invokevirtual 403, 3) := by decide +kernel
theorem dX11_restore_5 : decode cX11_restore 5 = .ok (.aload_n 0, 1) := by decide +kernel
theorem dX11_restore_6 : decode cX11_restore 6 = .ok (.getfield 88, 3) := by decide +kernel
theorem dX11_restore_9 : decode cX11_restore 9 = .ok (.iload_n 1, 1) := by decide +kernel
theorem dX11_restore_10 : decode cX11_restore 10 = .ok (.baload, 1) := by decide +kernel
theorem dX11_restore_11 : decode cX11_restore 11 = .ok (.ifCond .ne 14, 3) := by decide +kernel
theorem dX11_restore_14 : decode cX11_restore 14 = .ok (.new 96, 3) := by decide +kernel
theorem dX11_restore_17 : decode cX11_restore 17 = .ok (.dup, 1) := by decide +kernel
theorem dX11_restore_18 : decode cX11_restore 18 = .ok (.ldc_w 408, 3) := by decide +kernel
theorem dX11_restore_21 : decode cX11_restore 21 = .ok (.invokespecial 100, 3) := by decide +kernel
theorem dX11_restore_24 : decode cX11_restore 24 = .ok (.athrow, 1) := by decide +kernel
theorem dX11_restore_25 : decode cX11_restore 25 = .ok (.aload_n 0, 1) := by decide +kernel
theorem dX11_restore_26 : decode cX11_restore 26 = .ok (.getfield 67, 3) := by decide +kernel
theorem dX11_restore_29 : decode cX11_restore 29 = .ok (.getfield 139, 3) := by decide +kernel
theorem dX11_restore_32 : decode cX11_restore 32 = .ok (.aload_n 0, 1) := by decide +kernel
theorem dX11_restore_33 : decode cX11_restore 33 = .ok (.getfield 83, 3) := by decide +kernel
theorem dX11_restore_36 : decode cX11_restore 36 = .ok (.iload_n 1, 1) := by decide +kernel
theorem dX11_restore_37 : decode cX11_restore 37 = .ok (.aaload, 1) := by decide +kernel
theorem dX11_restore_38 : decode cX11_restore 38 = .ok (.invokevirtual 406, 3) := by decide +kernel
theorem dX11_restore_41 : decode cX11_restore 41 = .ok (.aload_n 0, 1) := by decide +kernel
theorem dX11_restore_42 : decode cX11_restore 42 = .ok (.getfield 77, 3) := by decide +kernel
theorem dX11_restore_45 : decode cX11_restore 45 = .ok (.iconst 0, 1) := by decide +kernel
theorem dX11_restore_46 : decode cX11_restore 46 = .ok (.putfield 123, 3) := by decide +kernel
theorem dX11_restore_49 : decode cX11_restore 49 = .ok (.aload_n 0, 1) := by decide +kernel
theorem dX11_restore_50 : decode cX11_restore 50 = .ok (.getfield 67, 3) := by decide +kernel
theorem dX11_restore_53 : decode cX11_restore 53 = .ok (.getfield 139, 3) := by decide +kernel
theorem dX11_restore_56 : decode cX11_restore 56 = .ok (.getfield 146, 3) := by decide +kernel
theorem dX11_restore_59 : decode cX11_restore 59 = .ok (.ireturn, 1) := by decide +kernel
set_option maxRecDepth 20000 in
theorem ggX11_writeSummary_X9_addByte : GoodIn wsX11_writeSummary wsX9_addByte := goodIn_r _ [7, 8, 9, 49, 50] rfl (by decide +kernel)
set_option maxRecDepth 20000 in
theorem gX11_writeSummary_X9_addByte : GoodIn wsX11_writeSummary (wsV RX11 410 RX9 yX9_addByte wsX9_addByte) := goodIn_app (goodIn_of _ (by decide +kernel)) ggX11_writeSummary_X9_addByte
set_option maxRecDepth 20000 in
theorem ggX11_writeSummary_X4_copyTo : GoodIn wsX11_writeSummary wsX4_copyTo := goodIn_r _ [14, 15, 16, 17, 4, 5, 6, 7, 8, 9, 73, 74, 75, 49, 50] rfl (by decide +kernel)
set_option maxRecDepth 20000 in
theorem gX11_writeSummary_X4_copyTo : GoodIn wsX11_writeSummary (wsV RX11 413 RX4 yX4_copyTo wsX4_copyTo) := goodIn_app (goodIn_of _ (by decide +kernel)) ggX11_writeSummary_X4_copyTo
set_option maxRecDepth 20000 in
theorem ggX11_writeSummary_X11_writeProgress : GoodIn wsX11_writeSummary wsX11_writeProgress := goodIn_r _ [22, 2, 1, 23, 24, 25, 26, 27, 28, 29, 30, 31, 21, 32, 3, 4, 5, 6, 7, 8, 9, 33, 34, 35, 36, 37, 38, 39, 40, 41, 42, 43, 44, 45, 46, 47, 48, 51, 52, 53, 54, 55, 76, 77, 78, 79, 80, 81, 82, 83, 84, 85, 86, 87, 88, 89, 90, 49, 50] rfl (by decide +kernel)
set_option maxRecDepth 20000 in
theorem gX11_writeSummary_X11_writeProgress : GoodIn wsX11_writeSummary (wsV RX11 417 RX11 yX11_writeProgress wsX11_writeProgress) := goodIn_app (goodIn_of _ (by decide +kernel)) ggX11_writeSummary_X11_writeProgress
theorem dX11_writeSummary_0 : decode cX11_writeSummary 0 = .ok (.aload_n 0, 1) := by decide +kernel
theorem dX11_writeSummary_1 : decode cX11_writeSummary 1 = .ok (.getfield 45, 3) := by decide +kernel
theorem dX11_writeSummary_4 : decode cX11_writeSummary 4 = .ok (.iconst 0, 1) := by decide +kernel
theorem dX11_writeSummary_5 : decode cX11_writeSummary 5 = .ok (.putfield 37, 3) := by decide +kernel
theorem dX11_writeSummary_8 : decode cX11_writeSummary 8 = .ok (.iconst 0, 1) := by decide +kernel
theorem dX11_writeSummary_9 : decode cX11_writeSummary 9 = .ok (.istore_n 1, 1) := by decide +kernel
theorem dX11_writeSummary_10 : decode cX11_writeSummary 10 = .ok (.iload_n 1, 1) := by decide +kernel
theorem dX11_writeSummary_11 : decode cX11_writeSummary 11 = .ok (.aload_n 0, 1) := by decide +kernel
theorem dX11_writeSummary_12 : decode cX11_writeSummary 12 = .ok (.getfield 67, 3) := by decide +kernel
theorem dX11_writeSummary_15 : decode cX11_writeSummary 15 = .ok (.getfield 117, 3) := by decide +kernel
theorem dX11_writeSummary_18 : decode cX11_writeSummary 18 = .ok (.getfield 126, 3) := by decide +kernel
theorem dX11_writeSummary_21 : decode cX11_writeSummary 21 = .ok (.getfield 130, 3) := by decide +kernel
theorem dX11_writeSummary_24 : decode cX11_writeSummary 24 = .ok (.if_icmp .ge 45, 3) := by decide +kernel
theorem dX11_writeSummary_27 : decode cX11_writeSummary 27 = .ok (.iload_n 1, 1) := by decide +kernel
theorem dX11_writeSummary_28 : decode cX11_writeSummary 28 = .ok (.ifCond .le 12, 3) := by decide +kernel
theorem dX11_writeSummary_31 : decode cX11_writeSummary 31 = .ok (.aload_n 0, 1) := by decide +kernel
theorem dX11_writeSummary_32 : decode cX11_writeSummary 32 = .ok (.getfield 45, 3) := by decide +kernel
theorem dX11_writeSummary_35 : decode cX11_writeSummary 35 = .ok (.bipush 32, 2) := by decide +kernel
theorem dX11_writeSummary_37 : decode cX11_writeSummary 37 = .ok (.invokevirtual 410, 3) := by decide +kernel
theorem dX11_writeSummary_40 : decode cX11_writeSummary 40 = .ok (.aload_n 0, 1) := by decide +kernel
theorem dX11_writeSummary_41 : decode cX11_writeSummary 41 = .ok (.getfield 67, 3) := by decide +kernel
theorem dX11_writeSummary_44 : decode cX11_writeSummary 44 = .ok (.getfield 117, 3) := by decide +kernel
theorem dX11_writeSummary_47 : decode cX11_writeSummary 47 = .ok (.getfield 126, 3) := by decide +kernel
theorem dX11_writeSummary_50 : decode cX11_writeSummary 50 = .ok (.aload_n 0, 1) := by decide +kernel
theorem dX11_writeSummary_51 : decode cX11_writeSummary 51 = .ok (.getfield 45, 3) := by decide +kernel
theorem dX11_writeSummary_54 : decode cX11_writeSummary 54 = .ok (.iload_n 1, 1) := by decide +kernel
theorem dX11_writeSummary_55 : decode cX11_writeSummary 55 = .ok (.invokevirtual 413, 3) := by decide +kernel
theorem dX11_writeSummary_58 : decode cX11_writeSummary 58 = .ok (.aload_n 0, 1) := by decide +kernel
theorem dX11_writeSummary_59 : decode cX11_writeSummary 59 = .ok (.iload_n 1, 1) := by decide +kernel
theorem dX11_writeSummary_60 : decode cX11_writeSummary 60 = .ok (.invokevirtual 417, 3) := by decide +kernel
theorem dX11_writeSummary_63 : decode cX11_writeSummary 63 = .ok (.iinc 1 1, 3) := by decide +kernel
theorem dX11_writeSummary_66 : decode cX11_writeSummary 66 = .ok (.goto (-56), 3) := by decide +kernel
theorem dX11_writeSummary_69 : decode cX11_writeSummary 69 = .ok (.aload_n 0, 1) := by decide +kernel
theorem dX11_writeSummary_70 : decode cX11_writeSummary 70 = .ok (.getfield 45, 3) := by decide +kernel
theorem dX11_writeSummary_73 : decode cX11_writeSummary 73 = .ok (.getfield 37, 3) := by decide +kernel
theorem dX11_writeSummary_76 : decode cX11_writeSummary 76 = .ok (.ireturn, 1) := by decide +kernel
set_option maxRecDepth 20000 in
theorem ggX11_outputByte_X11_isWithin : GoodIn wsX11_outputByte wsX11_isWithin := goodIn_r _ [7] rfl (by decide +kernel)
set_option maxRecDepth 20000 in
theorem gX11_outputByte_X11_isWithin : GoodIn wsX11_outputByte (va_wsS RX11 105 yX11_isWithin wsX11_isWithin) := goodIn_app (goodIn_of _ (by decide +kernel)) ggX11_outputByte_X11_isWithin
theorem dX11_outputByte_0 : decode cX11_outputByte 0 = .ok (.iload_n 1, 1) := by decide +kernel
theorem dX11_outputByte_1 : decode cX11_outputByte 1 = .ok (.iconst 0, 1) := by decide +kernel
theorem dX11_outputByte_2 : decode cX11_outputByte 2 = .ok (.aload_n 0, 1) := by decide +kernel
theorem dX11_outputByte_3 : decode cX11_outputByte 3 = .ok (.getfield 45, 3) := by decide +kernel
theorem dX11_outputByte_6 : decode cX11_outputByte 6 = .ok (.getfield 37, 3) := by decide +kernel
theorem dX11_outputByte_9 : decode cX11_outputByte 9 = .ok (.iconst 1, 1) := by decide +kernel
theorem dX11_outputByte_10 : decode cX11_outputByte 10 = .ok (.isub, 1) := by decide +kernel
theorem dX11_outputByte_11 : decode cX11_outputByte 11 = .ok (.invokestatic 105, 3) := by decide +kernel
theorem dX11_outputByte_14 : decode cX11_outputByte 14 = .ok (.ifCond .ne 14, 3) := by decide +kernel
theorem dX11_outputByte_17 : decode cX11_outputByte 17 = .ok (.new 237, 3) := by decide +kernel
theorem dX11_outputByte_20 : decode cX11_outputByte 20 = .ok (.dup, 1) := by decide +kernel
theorem dX11_outputByte_21 : decode cX11_outputByte 21 = .ok (.ldc_w 420, 3) := by decide +kernel
theorem dX11_outputByte_24 : decode cX11_outputByte 24 = .ok (.invokespecial 241, 3) := by decide +kernel
theorem dX11_outputByte_27 : decode cX11_outputByte 27 = .ok (.athrow, 1) := by decide +kernel
theorem dX11_outputByte_28 : decode cX11_outputByte 28 = .ok (.aload_n 0, 1) := by decide +kernel
theorem dX11_outputByte_29 : decode cX11_outputByte 29 = .ok (.getfield 45, 3) := by decide +kernel
theorem dX11_outputByte_32 : decode cX11_outputByte 32 = .ok (.getfield 422, 3) := by decide +kernel
theorem dX11_outputByte_35 : decode cX11_outputByte 35 = .ok (.iload_n 1, 1) := by decide +kernel
theorem dX11_outputByte_36 : decode cX11_outputByte 36 = .ok (.baload, 1) := by decide +kernel
theorem dX11_outputByte_37 : decode cX11_outputByte 37 = .ok (.ireturn, 1) := by decide +kernel
set_option maxRecDepth 20000 in
theorem ggX11_requireStep_X11_isWithin : GoodIn wsX11_requireStep wsX11_isWithin := goodIn_r _ [7] rfl (by decide +kernel)
set_option maxRecDepth 20000 in
theorem gX11_requireStep_X11_isWithin : GoodIn wsX11_requireStep (va_wsS RX11 105 yX11_isWithin wsX11_isWithin) := goodIn_app (goodIn_of _ (by decide +kernel)) ggX11_requireStep_X11_isWithin
theorem dX11_requireStep_0 : decode cX11_requireStep 0 = .ok (.iload_n 1, 1) := by decide +kernel
theorem dX11_requireStep_1 : decode cX11_requireStep 1 = .ok (.iconst 0, 1) := by decide +kernel
theorem dX11_requireStep_2 : decode cX11_requireStep 2 = .ok (.aload_n 0, 1) := by decide +kernel
theorem dX11_requireStep_3 : decode cX11_requireStep 3 = .ok (.getfield 67, 3) := by decide +kernel
theorem dX11_requireStep_6 : decode cX11_requireStep 6 = .ok (.getfield 117, 3) := by decide +kernel
theorem dX11_requireStep_9 : decode cX11_requireStep 9 = .ok (.getfield 126, 3) := by decide +kernel
theorem dX11_requireStep_12 : decode cX11_requireStep 12 = .ok (.getfield 130, 3) := by decide +kernel
theorem dX11_requireStep_15 : decode cX11_requireStep 15 = .ok (.iconst 1, 1) := by decide +kernel
theorem dX11_requireStep_16 : decode cX11_requireStep 16 = .ok (.isub, 1) := by decide +kernel
theorem dX11_requireStep_17 : decode cX11_requireStep 17 = .ok (.invokestatic 105, 3) := by decide +kernel
theorem dX11_requireStep_20 : decode cX11_requireStep 20 = .ok (.ifCond .ne 14, 3) := by decide +kernel
theorem dX11_requireStep_23 : decode cX11_requireStep 23 = .ok (.new 237, 3) := by decide +kernel
theorem dX11_requireStep_26 : decode cX11_requireStep 26 = .ok (.dup, 1) := by decide +kernel
theorem dX11_requireStep_27 : decode cX11_requireStep 27 = .ok (.ldc_w 426, 3) := by decide +kernel
theorem dX11_requireStep_30 : decode cX11_requireStep 30 = .ok (.invokespecial 241, 3) := by decide +kernel
theorem dX11_requireStep_33 : decode cX11_requireStep 33 = .ok (.athrow, 1) := by decide +kernel
theorem dX11_requireStep_34 : decode cX11_requireStep 34 = .ok (.return_, 1) := by decide +kernel
set_option maxRecDepth 20000 in
theorem ggX11_requirePan_X11_isWithin : GoodIn wsX11_requirePan wsX11_isWithin := goodIn_r _ [7] rfl (by decide +kernel)
set_option maxRecDepth 20000 in
theorem gX11_requirePan_X11_isWithin : GoodIn wsX11_requirePan (va_wsS RX11 105 yX11_isWithin wsX11_isWithin) := goodIn_app (goodIn_of _ (by decide +kernel)) ggX11_requirePan_X11_isWithin
theorem dX11_requirePan_0 : decode cX11_requirePan 0 = .ok (.iload_n 1, 1) := by decide +kernel
theorem dX11_requirePan_1 : decode cX11_requirePan 1 = .ok (.iconst 0, 1) := by decide +kernel
theorem dX11_requirePan_2 : decode cX11_requirePan 2 = .ok (.aload_n 0, 1) := by decide +kernel
theorem dX11_requirePan_3 : decode cX11_requirePan 3 = .ok (.getfield 67, 3) := by decide +kernel
theorem dX11_requirePan_6 : decode cX11_requirePan 6 = .ok (.getfield 117, 3) := by decide +kernel
theorem dX11_requirePan_9 : decode cX11_requirePan 9 = .ok (.getfield 428, 3) := by decide +kernel
theorem dX11_requirePan_12 : decode cX11_requirePan 12 = .ok (.getfield 130, 3) := by decide +kernel
theorem dX11_requirePan_15 : decode cX11_requirePan 15 = .ok (.iconst 1, 1) := by decide +kernel
theorem dX11_requirePan_16 : decode cX11_requirePan 16 = .ok (.isub, 1) := by decide +kernel
theorem dX11_requirePan_17 : decode cX11_requirePan 17 = .ok (.invokestatic 105, 3) := by decide +kernel
theorem dX11_requirePan_20 : decode cX11_requirePan 20 = .ok (.ifCond .ne 14, 3) := by decide +kernel
theorem dX11_requirePan_23 : decode cX11_requirePan 23 = .ok (.new 237, 3) := by decide +kernel
theorem dX11_requirePan_26 : decode cX11_requirePan 26 = .ok (.dup, 1) := by decide +kernel
theorem dX11_requirePan_27 : decode cX11_requirePan 27 = .ok (.ldc_w 431, 3) := by decide +kernel
theorem dX11_requirePan_30 : decode cX11_requirePan 30 = .ok (.invokespecial 241, 3) := by decide +kernel
theorem dX11_requirePan_33 : decode cX11_requirePan 33 = .ok (.athrow, 1) := by decide +kernel
theorem dX11_requirePan_34 : decode cX11_requirePan 34 = .ok (.return_, 1) := by decide +kernel
set_option maxRecDepth 20000 in
theorem ggX11_requireSlot_X11_isWithin : GoodIn wsX11_requireSlot wsX11_isWithin := goodIn_r _ [6] rfl (by decide +kernel)
set_option maxRecDepth 20000 in
theorem gX11_requireSlot_X11_isWithin : GoodIn wsX11_requireSlot (va_wsS RX11 105 yX11_isWithin wsX11_isWithin) := goodIn_app (goodIn_of _ (by decide +kernel)) ggX11_requireSlot_X11_isWithin
theorem dX11_requireSlot_0 : decode cX11_requireSlot 0 = .ok (.iload_n 1, 1) := by decide +kernel
theorem dX11_requireSlot_1 : decode cX11_requireSlot 1 = .ok (.iconst 0, 1) := by decide +kernel
theorem dX11_requireSlot_2 : decode cX11_requireSlot 2 = .ok (.iconst 1, 1) := by decide +kernel
theorem dX11_requireSlot_3 : decode cX11_requireSlot 3 = .ok (.invokestatic 105, 3) := by decide +kernel
theorem dX11_requireSlot_6 : decode cX11_requireSlot 6 = .ok (.ifCond .ne 14, 3) := by decide +kernel
theorem dX11_requireSlot_9 : decode cX11_requireSlot 9 = .ok (.new 237, 3) := by decide +kernel
theorem dX11_requireSlot_12 : decode cX11_requireSlot 12 = .ok (.dup, 1) := by decide +kernel
theorem dX11_requireSlot_13 : decode cX11_requireSlot 13 = .ok (.ldc_w 433, 3) := by decide +kernel
theorem dX11_requireSlot_16 : decode cX11_requireSlot 16 = .ok (.invokespecial 241, 3) := by decide +kernel
theorem dX11_requireSlot_19 : decode cX11_requireSlot 19 = .ok (.athrow, 1) := by decide +kernel
theorem dX11_requireSlot_20 : decode cX11_requireSlot 20 = .ok (.return_, 1) := by decide +kernel
set_option maxRecDepth 20000 in
theorem ggX11_requireCooks_X11_isCookCount : GoodIn wsX11_requireCooks wsX11_isCookCount := goodIn_r _ [7, 8, 9, 6, 10] rfl (by decide +kernel)
set_option maxRecDepth 20000 in
theorem gX11_requireCooks_X11_isCookCount : GoodIn wsX11_requireCooks (wsV RX11 435 RX11 yX11_isCookCount wsX11_isCookCount) := goodIn_app (goodIn_of _ (by decide +kernel)) ggX11_requireCooks_X11_isCookCount
theorem dX11_requireCooks_0 : decode cX11_requireCooks 0 = .ok (.aload_n 0, 1) := by decide +kernel
theorem dX11_requireCooks_1 : decode cX11_requireCooks 1 = .ok (.iload_n 1, 1) := by decide +kernel
theorem dX11_requireCooks_2 : decode cX11_requireCooks 2 = .ok (.invokevirtual 435, 3) := by decide +kernel
theorem dX11_requireCooks_5 : decode cX11_requireCooks 5 = .ok (.ifCond .ne 14, 3) := by decide +kernel
theorem dX11_requireCooks_8 : decode cX11_requireCooks 8 = .ok (.new 109, 3) := by decide +kernel
theorem dX11_requireCooks_11 : decode cX11_requireCooks 11 = .ok (.dup, 1) := by decide +kernel
theorem dX11_requireCooks_12 : decode cX11_requireCooks 12 = .ok (.ldc_w 438, 3) := by decide +kernel
theorem dX11_requireCooks_15 : decode cX11_requireCooks 15 = .ok (.invokespecial 113, 3) := by decide +kernel
theorem dX11_requireCooks_18 : decode cX11_requireCooks 18 = .ok (.athrow, 1) := by decide +kernel
theorem dX11_requireCooks_19 : decode cX11_requireCooks 19 = .ok (.return_, 1) := by decide +kernel
theorem dX11_requireNoError_0 : decode cX11_requireNoError 0 = .ok (.aload_n 0, 1) := by decide +kernel
theorem dX11_requireNoError_1 : decode cX11_requireNoError 1 = .ok (.getfield 48, 3) := by decide +kernel
theorem dX11_requireNoError_4 : decode cX11_requireNoError 4 = .ok (.getfield 133, 3) := by decide +kernel
theorem dX11_requireNoError_7 : decode cX11_requireNoError 7 = .ok (.ifCond .eq 14, 3) := by decide +kernel
theorem dX11_requireNoError_10 : decode cX11_requireNoError 10 = .ok (.new 109, 3) := by decide +kernel
theorem dX11_requireNoError_13 : decode cX11_requireNoError 13 = .ok (.dup, 1) := by decide +kernel
theorem dX11_requireNoError_14 : decode cX11_requireNoError 14 = .ok (.ldc_w 440, 3) := by decide +kernel
theorem dX11_requireNoError_17 : decode cX11_requireNoError 17 = .ok (.invokespecial 113, 3) := by decide +kernel
theorem dX11_requireNoError_20 : decode cX11_requireNoError 20 = .ok (.athrow, 1) := by decide +kernel
theorem dX11_requireNoError_21 : decode cX11_requireNoError 21 = .ok (.return_, 1) := by decide +kernel
set_option maxRecDepth 20000 in
theorem ggX11_isPassLength_X11_isWithin : GoodIn wsX11_isPassLength wsX11_isWithin := goodIn_r _ [4] rfl (by decide +kernel)
set_option maxRecDepth 20000 in
theorem gX11_isPassLength_X11_isWithin : GoodIn wsX11_isPassLength (va_wsS RX11 105 yX11_isWithin wsX11_isWithin) := goodIn_app (goodIn_of _ (by decide +kernel)) ggX11_isPassLength_X11_isWithin
theorem dX11_isPassLength_0 : decode cX11_isPassLength 0 = .ok (.iload_n 1, 1) := by decide +kernel
theorem dX11_isPassLength_1 : decode cX11_isPassLength 1 = .ok (.iconst 1, 1) := by decide +kernel
theorem dX11_isPassLength_2 : decode cX11_isPassLength 2 = .ok (.sipush 200, 3) := by decide +kernel
theorem dX11_isPassLength_5 : decode cX11_isPassLength 5 = .ok (.invokestatic 105, 3) := by decide +kernel
theorem dX11_isPassLength_8 : decode cX11_isPassLength 8 = .ok (.ireturn, 1) := by decide +kernel
theorem dX11_fitsClock_0 : decode cX11_fitsClock 0 = .ok (.aload_n 0, 1) := by decide +kernel
theorem dX11_fitsClock_1 : decode cX11_fitsClock 1 = .ok (.getfield 67, 3) := by decide +kernel
theorem dX11_fitsClock_4 : decode cX11_fitsClock 4 = .ok (.getfield 139, 3) := by decide +kernel
theorem dX11_fitsClock_7 : decode cX11_fitsClock 7 = .ok (.getfield 146, 3) := by decide +kernel
theorem dX11_fitsClock_10 : decode cX11_fitsClock 10 = .ok (.iload_n 1, 1) := by decide +kernel
theorem dX11_fitsClock_11 : decode cX11_fitsClock 11 = .ok (.iadd, 1) := by decide +kernel
theorem dX11_fitsClock_12 : decode cX11_fitsClock 12 = .ok (.sipush 9999, 3) := by decide +kernel
theorem dX11_fitsClock_15 : decode cX11_fitsClock 15 = .ok (.if_icmp .gt 7, 3) := by decide +kernel
theorem dX11_fitsClock_18 : decode cX11_fitsClock 18 = .ok (.iconst 1, 1) := by decide +kernel
theorem dX11_fitsClock_19 : decode cX11_fitsClock 19 = .ok (.goto 4, 3) := by decide +kernel
theorem dX11_fitsClock_22 : decode cX11_fitsClock 22 = .ok (.iconst 0, 1) := by decide +kernel
theorem dX11_fitsClock_23 : decode cX11_fitsClock 23 = .ok (.ireturn, 1) := by decide +kernel
set_option maxRecDepth 20000 in
theorem ggX11_isSaltAmount_X11_isWithin : GoodIn wsX11_isSaltAmount wsX11_isWithin := goodIn_r _ [4] rfl (by decide +kernel)
set_option maxRecDepth 20000 in
theorem gX11_isSaltAmount_X11_isWithin : GoodIn wsX11_isSaltAmount (va_wsS RX11 105 yX11_isWithin wsX11_isWithin) := goodIn_app (goodIn_of _ (by decide +kernel)) ggX11_isSaltAmount_X11_isWithin
theorem dX11_isSaltAmount_0 : decode cX11_isSaltAmount 0 = .ok (.iload_n 1, 1) := by decide +kernel
theorem dX11_isSaltAmount_1 : decode cX11_isSaltAmount 1 = .ok (.ifCond .eq 18, 3) := by decide +kernel
theorem dX11_isSaltAmount_4 : decode cX11_isSaltAmount 4 = .ok (.iload_n 1, 1) := by decide +kernel
theorem dX11_isSaltAmount_5 : decode cX11_isSaltAmount 5 = .ok (.bipush (-9), 2) := by decide +kernel
theorem dX11_isSaltAmount_7 : decode cX11_isSaltAmount 7 = .ok (.bipush 9, 2) := by decide +kernel
theorem dX11_isSaltAmount_9 : decode cX11_isSaltAmount 9 = .ok (.invokestatic 105, 3) := by decide +kernel
theorem dX11_isSaltAmount_12 : decode cX11_isSaltAmount 12 = .ok (.ifCond .eq 7, 3) := by decide +kernel
theorem dX11_isSaltAmount_15 : decode cX11_isSaltAmount 15 = .ok (.iconst 1, 1) := by decide +kernel
theorem dX11_isSaltAmount_16 : decode cX11_isSaltAmount 16 = .ok (.goto 4, 3) := by decide +kernel
theorem dX11_isSaltAmount_19 : decode cX11_isSaltAmount 19 = .ok (.iconst 0, 1) := by decide +kernel
theorem dX11_isSaltAmount_20 : decode cX11_isSaltAmount 20 = .ok (.ireturn, 1) := by decide +kernel
set_option maxRecDepth 20000 in
theorem ggX11_isCookCount_X11_isWithin : GoodIn wsX11_isCookCount wsX11_isWithin := goodIn_r _ [4] rfl (by decide +kernel)
set_option maxRecDepth 20000 in
theorem gX11_isCookCount_X11_isWithin : GoodIn wsX11_isCookCount (va_wsS RX11 105 yX11_isWithin wsX11_isWithin) := goodIn_app (goodIn_of _ (by decide +kernel)) ggX11_isCookCount_X11_isWithin
theorem dX11_isCookCount_0 : decode cX11_isCookCount 0 = .ok (.iload_n 1, 1) := by decide +kernel
theorem dX11_isCookCount_1 : decode cX11_isCookCount 1 = .ok (.iconst 1, 1) := by decide +kernel
theorem dX11_isCookCount_2 : decode cX11_isCookCount 2 = .ok (.iconst 4, 1) := by decide +kernel
theorem dX11_isCookCount_3 : decode cX11_isCookCount 3 = .ok (.invokestatic 105, 3) := by decide +kernel
theorem dX11_isCookCount_6 : decode cX11_isCookCount 6 = .ok (.ireturn, 1) := by decide +kernel
set_option maxRecDepth 20000 in
theorem ggX11_isDuration_X11_isWithin : GoodIn wsX11_isDuration wsX11_isWithin := goodIn_r _ [4] rfl (by decide +kernel)
set_option maxRecDepth 20000 in
theorem gX11_isDuration_X11_isWithin : GoodIn wsX11_isDuration (va_wsS RX11 105 yX11_isWithin wsX11_isWithin) := goodIn_app (goodIn_of _ (by decide +kernel)) ggX11_isDuration_X11_isWithin
theorem dX11_isDuration_0 : decode cX11_isDuration 0 = .ok (.iload_n 1, 1) := by decide +kernel
theorem dX11_isDuration_1 : decode cX11_isDuration 1 = .ok (.iconst 1, 1) := by decide +kernel
theorem dX11_isDuration_2 : decode cX11_isDuration 2 = .ok (.bipush 60, 2) := by decide +kernel
theorem dX11_isDuration_4 : decode cX11_isDuration 4 = .ok (.invokestatic 105, 3) := by decide +kernel
theorem dX11_isDuration_7 : decode cX11_isDuration 7 = .ok (.ireturn, 1) := by decide +kernel
set_option maxRecDepth 20000 in
theorem ggX11_isAllowed_Jx29ce0_ordinal_8abf5 : GoodIn wsX11_isAllowed wsJx29ce0_ordinal_8abf5 := goodIn_r _ [8, 9] rfl (by decide +kernel)
set_option maxRecDepth 20000 in
theorem gX11_isAllowed_Jx29ce0_ordinal_8abf5_u447X1 : GoodIn wsX11_isAllowed (va_wsU RX11 447 RX1 "java/lang/Enum" ⟨"RecipeScheduler$Command", "ordinal", "()I"⟩ yJx29ce0_ordinal_8abf5 wsJx29ce0_ordinal_8abf5) := goodIn_app (goodIn_of _ (by decide +kernel)) ggX11_isAllowed_Jx29ce0_ordinal_8abf5
set_option maxRecDepth 20000 in
theorem ggX11_isAllowed_X11_isPassLength : GoodIn wsX11_isAllowed wsX11_isPassLength := goodIn_r _ [14, 15, 16, 13, 17] rfl (by decide +kernel)
set_option maxRecDepth 20000 in
theorem gX11_isAllowed_X11_isPassLength : GoodIn wsX11_isAllowed (wsV RX11 333 RX11 yX11_isPassLength wsX11_isPassLength) := goodIn_app (goodIn_of _ (by decide +kernel)) ggX11_isAllowed_X11_isPassLength
set_option maxRecDepth 20000 in
theorem ggX11_isAllowed_X11_fitsClock : GoodIn wsX11_isAllowed wsX11_fitsClock := goodIn_r _ [21, 2, 62, 63, 64, 65, 66, 67, 68, 69, 70, 71, 72, 73, 74, 75, 76, 77, 78, 79, 80, 81, 82, 83, 84, 85, 86, 87, 88, 89, 90, 91, 92] rfl (by decide +kernel)
set_option maxRecDepth 20000 in
theorem gX11_isAllowed_X11_fitsClock : GoodIn wsX11_isAllowed (wsV RX11 336 RX11 yX11_fitsClock wsX11_fitsClock) := goodIn_app (goodIn_of _ (by decide +kernel)) ggX11_isAllowed_X11_fitsClock
set_option maxRecDepth 20000 in
theorem ggX11_isAllowed_X11_isSaltAmount : GoodIn wsX11_isAllowed wsX11_isSaltAmount := goodIn_r _ [25, 15, 16, 13, 17] rfl (by decide +kernel)
set_option maxRecDepth 20000 in
theorem gX11_isAllowed_X11_isSaltAmount : GoodIn wsX11_isAllowed (wsV RX11 345 RX11 yX11_isSaltAmount wsX11_isSaltAmount) := goodIn_app (goodIn_of _ (by decide +kernel)) ggX11_isAllowed_X11_isSaltAmount
set_option maxRecDepth 20000 in
theorem ggX11_isAllowed_X11_contains : GoodIn wsX11_isAllowed wsX11_contains := goodIn_r _ [28] rfl (by decide +kernel)
set_option maxRecDepth 20000 in
theorem gX11_isAllowed_X11_contains : GoodIn wsX11_isAllowed (va_wsS RX11 208 yX11_contains wsX11_contains) := goodIn_app (goodIn_of _ (by decide +kernel)) ggX11_isAllowed_X11_contains
set_option maxRecDepth 20000 in
theorem ggX11_isAllowed_X3_isRedoable : GoodIn wsX11_isAllowed wsX3_isRedoable := goodIn_r _ [33, 34, 27, 13, 28, 35, 36, 37, 32, 38, 39, 73, 74, 75, 76, 77, 78, 79, 80, 81, 82, 83, 84, 85, 86, 87, 88, 89, 90, 91, 92, 93, 94, 95, 96, 97, 98, 99, 100, 101, 102, 103, 104, 105, 106, 107, 108, 109] rfl (by decide +kernel)
set_option maxRecDepth 20000 in
theorem gX11_isAllowed_X3_isRedoable : GoodIn wsX11_isAllowed (wsV RX11 361 RX3 yX3_isRedoable wsX3_isRedoable) := goodIn_app (goodIn_of _ (by decide +kernel)) ggX11_isAllowed_X3_isRedoable
set_option maxRecDepth 20000 in
theorem ggX11_isAllowed_X11_isCookCount : GoodIn wsX11_isAllowed wsX11_isCookCount := goodIn_r _ [43, 15, 16, 13, 17] rfl (by decide +kernel)
set_option maxRecDepth 20000 in
theorem gX11_isAllowed_X11_isCookCount : GoodIn wsX11_isAllowed (wsV RX11 435 RX11 yX11_isCookCount wsX11_isCookCount) := goodIn_app (goodIn_of _ (by decide +kernel)) ggX11_isAllowed_X11_isCookCount
set_option maxRecDepth 20000 in
theorem ggX11_isAllowed_X11_isDuration : GoodIn wsX11_isAllowed wsX11_isDuration := goodIn_r _ [47, 15, 16, 13, 17] rfl (by decide +kernel)
set_option maxRecDepth 20000 in
theorem gX11_isAllowed_X11_isDuration : GoodIn wsX11_isAllowed (wsV RX11 369 RX11 yX11_isDuration wsX11_isDuration) := goodIn_app (goodIn_of _ (by decide +kernel)) ggX11_isAllowed_X11_isDuration
set_option maxRecDepth 20000 in
theorem ggX11_isAllowed_X3_servingObstacle : GoodIn wsX11_isAllowed wsX3_servingObstacle := goodIn_r _ [51, 34, 39, 52, 53, 54, 55, 56, 57, 58, 59, 60, 32, 61, 27, 13, 28, 73, 74, 75, 76, 77, 78, 79, 80, 81, 82, 83, 84, 85, 86, 87, 88, 89, 90, 91, 92, 93, 94, 95, 96, 97, 98, 99, 100, 101, 102, 103, 104, 105, 106, 107, 108, 109, 110, 111, 112] rfl (by decide +kernel)
set_option maxRecDepth 20000 in
theorem gX11_isAllowed_X3_servingObstacle : GoodIn wsX11_isAllowed (wsV RX11 280 RX3 yX3_servingObstacle wsX3_servingObstacle) := goodIn_app (goodIn_of _ (by decide +kernel)) ggX11_isAllowed_X3_servingObstacle
theorem dX11_isAllowed_0 : decode cX11_isAllowed 0 = .ok (.getstatic 442, 3) := by decide +kernel
theorem dX11_isAllowed_3 : decode cX11_isAllowed 3 = .ok (.aload_n 1, 1) := by decide +kernel
theorem dX11_isAllowed_4 : decode cX11_isAllowed 4 = .ok (.invokevirtual 447, 3) := by decide +kernel
theorem dX11_isAllowed_7 : decode cX11_isAllowed 7 = .ok (.iaload, 1) := by decide +kernel
theorem dX11_isAllowed_8 : decode cX11_isAllowed 8 = .ok (.tableswitch 129 1 7 #[44, 66, 66, 93, 108, 117, 123], 44) := by decide +kernel
theorem dX11_isAllowed_52 : decode cX11_isAllowed 52 = .ok (.aload_n 0, 1) := by decide +kernel
theorem dX11_isAllowed_53 : decode cX11_isAllowed 53 = .ok (.iload_n 3, 1) := by decide +kernel
theorem dX11_isAllowed_54 : decode cX11_isAllowed 54 = .ok (.invokevirtual 333, 3) := by decide +kernel
theorem dX11_isAllowed_57 : decode cX11_isAllowed 57 = .ok (.ifCond .eq 15, 3) := by decide +kernel
theorem dX11_isAllowed_60 : decode cX11_isAllowed 60 = .ok (.aload_n 0, 1) := by decide +kernel
theorem dX11_isAllowed_61 : decode cX11_isAllowed 61 = .ok (.iload_n 3, 1) := by decide +kernel
theorem dX11_isAllowed_62 : decode cX11_isAllowed 62 = .ok (.invokevirtual 336, 3) := by decide +kernel
theorem dX11_isAllowed_65 : decode cX11_isAllowed 65 = .ok (.ifCond .eq 7, 3) := by decide +kernel
theorem dX11_isAllowed_68 : decode cX11_isAllowed 68 = .ok (.iconst 1, 1) := by decide +kernel
theorem dX11_isAllowed_69 : decode cX11_isAllowed 69 = .ok (.goto 4, 3) := by decide +kernel
theorem dX11_isAllowed_72 : decode cX11_isAllowed 72 = .ok (.iconst 0, 1) := by decide +kernel
theorem dX11_isAllowed_73 : decode cX11_isAllowed 73 = .ok (.ireturn, 1) := by decide +kernel
theorem dX11_isAllowed_74 : decode cX11_isAllowed 74 = .ok (.aload_n 0, 1) := by decide +kernel
theorem dX11_isAllowed_75 : decode cX11_isAllowed 75 = .ok (.iload_n 3, 1) := by decide +kernel
theorem dX11_isAllowed_76 : decode cX11_isAllowed 76 = .ok (.invokevirtual 345, 3) := by decide +kernel
theorem dX11_isAllowed_79 : decode cX11_isAllowed 79 = .ok (.ifCond .eq 20, 3) := by decide +kernel
theorem dX11_isAllowed_82 : decode cX11_isAllowed 82 = .ok (.aload_n 0, 1) := by decide +kernel
theorem dX11_isAllowed_83 : decode cX11_isAllowed 83 = .ok (.getfield 67, 3) := by decide +kernel
theorem dX11_isAllowed_86 : decode cX11_isAllowed 86 = .ok (.getfield 139, 3) := by decide +kernel
theorem dX11_isAllowed_89 : decode cX11_isAllowed 89 = .ok (.getfield 350, 3) := by decide +kernel
theorem dX11_isAllowed_92 : decode cX11_isAllowed 92 = .ok (.ifCond .ne 7, 3) := by decide +kernel
theorem dX11_isAllowed_95 : decode cX11_isAllowed 95 = .ok (.iconst 1, 1) := by decide +kernel
theorem dX11_isAllowed_96 : decode cX11_isAllowed 96 = .ok (.goto 4, 3) := by decide +kernel
theorem dX11_isAllowed_99 : decode cX11_isAllowed 99 = .ok (.iconst 0, 1) := by decide +kernel
theorem dX11_isAllowed_100 : decode cX11_isAllowed 100 = .ok (.ireturn, 1) := by decide +kernel
theorem dX11_isAllowed_101 : decode cX11_isAllowed 101 = .ok (.aload_n 0, 1) := by decide +kernel
theorem dX11_isAllowed_102 : decode cX11_isAllowed 102 = .ok (.getfield 67, 3) := by decide +kernel
theorem dX11_isAllowed_105 : decode cX11_isAllowed 105 = .ok (.getfield 139, 3) := by decide +kernel
theorem dX11_isAllowed_108 : decode cX11_isAllowed 108 = .ok (.getfield 324, 3) := by decide +kernel
theorem dX11_isAllowed_111 : decode cX11_isAllowed 111 = .ok (.iload_n 2, 1) := by decide +kernel
theorem dX11_isAllowed_112 : decode cX11_isAllowed 112 = .ok (.invokestatic 208, 3) := by decide +kernel
theorem dX11_isAllowed_115 : decode cX11_isAllowed 115 = .ok (.ireturn, 1) := by decide +kernel
theorem dX11_isAllowed_116 : decode cX11_isAllowed 116 = .ok (.aload_n 0, 1) := by decide +kernel
theorem dX11_isAllowed_117 : decode cX11_isAllowed 117 = .ok (.getfield 67, 3) := by decide +kernel
theorem dX11_isAllowed_120 : decode cX11_isAllowed 120 = .ok (.iload_n 2, 1) := by decide +kernel
theorem dX11_isAllowed_121 : decode cX11_isAllowed 121 = .ok (.invokevirtual 361, 3) := by decide +kernel
theorem dX11_isAllowed_124 : decode cX11_isAllowed 124 = .ok (.ireturn, 1) := by decide +kernel
theorem dX11_isAllowed_125 : decode cX11_isAllowed 125 = .ok (.aload_n 0, 1) := by decide +kernel
theorem dX11_isAllowed_126 : decode cX11_isAllowed 126 = .ok (.iload_n 3, 1) := by decide +kernel
theorem dX11_isAllowed_127 : decode cX11_isAllowed 127 = .ok (.invokevirtual 435, 3) := by decide +kernel
theorem dX11_isAllowed_130 : decode cX11_isAllowed 130 = .ok (.ireturn, 1) := by decide +kernel
theorem dX11_isAllowed_131 : decode cX11_isAllowed 131 = .ok (.aload_n 0, 1) := by decide +kernel
theorem dX11_isAllowed_132 : decode cX11_isAllowed 132 = .ok (.iload_n 3, 1) := by decide +kernel
theorem dX11_isAllowed_133 : decode cX11_isAllowed 133 = .ok (.invokevirtual 369, 3) := by decide +kernel
theorem dX11_isAllowed_136 : decode cX11_isAllowed 136 = .ok (.ireturn, 1) := by decide +kernel
theorem dX11_isAllowed_137 : decode cX11_isAllowed 137 = .ok (.aload_n 0, 1) := by decide +kernel
theorem dX11_isAllowed_138 : decode cX11_isAllowed 138 = .ok (.getfield 67, 3) := by decide +kernel
theorem dX11_isAllowed_141 : decode cX11_isAllowed 141 = .ok (.invokevirtual 280, 3) := by decide +kernel
theorem dX11_isAllowed_144 : decode cX11_isAllowed 144 = .ok (.ifCond .ne 7, 3) := by decide +kernel
theorem dX11_isAllowed_147 : decode cX11_isAllowed 147 = .ok (.iconst 1, 1) := by decide +kernel
theorem dX11_isAllowed_148 : decode cX11_isAllowed 148 = .ok (.goto 4, 3) := by decide +kernel
theorem dX11_isAllowed_151 : decode cX11_isAllowed 151 = .ok (.iconst 0, 1) := by decide +kernel
theorem dX11_isAllowed_152 : decode cX11_isAllowed 152 = .ok (.ireturn, 1) := by decide +kernel
set_option maxRecDepth 20000 in
theorem ggX11_carryOut_Jx29ce0_ordinal_8abf5 : GoodIn wsX11_carryOut wsJx29ce0_ordinal_8abf5 := goodIn_r _ [8, 9] rfl (by decide +kernel)
set_option maxRecDepth 20000 in
theorem gX11_carryOut_Jx29ce0_ordinal_8abf5_u447X1 : GoodIn wsX11_carryOut (va_wsU RX11 447 RX1 "java/lang/Enum" ⟨"RecipeScheduler$Command", "ordinal", "()I"⟩ yJx29ce0_ordinal_8abf5 wsJx29ce0_ordinal_8abf5) := goodIn_app (goodIn_of _ (by decide +kernel)) ggX11_carryOut_Jx29ce0_ordinal_8abf5
set_option maxRecDepth 20000 in
theorem ggX11_carryOut_X3_runMinutes : GoodIn wsX11_carryOut wsX3_runMinutes := goodIn_r _ [14, 15, 16, 17, 13, 18, 19, 20, 21, 22, 23, 24, 25, 26, 27, 28, 29, 30, 31, 32, 33, 34, 35, 36, 37, 38, 39, 40, 41, 42, 43, 44, 45, 46, 47, 48, 49, 50, 51, 52, 53, 54, 55, 56, 57, 58, 59, 60, 61, 62, 63, 64, 65, 66, 67, 68, 69, 70, 71, 72, 73, 74, 75, 76, 77, 78, 79, 80, 81, 82, 83, 84, 85, 86, 87, 88, 89, 90, 91, 92, 93, 94, 95, 96, 97, 98, 99, 100, 121, 122, 123, 124, 125, 141, 142, 143, 144, 145, 146, 147, 148, 149, 150, 151, 152, 153, 154, 155, 156, 157, 158, 159, 160, 126, 127, 128, 129, 130, 131, 132, 133, 134, 135, 136, 137, 138, 139, 140] rfl (by decide +kernel)
set_option maxRecDepth 20000 in
theorem gX11_carryOut_X3_runMinutes : GoodIn wsX11_carryOut (wsV RX11 298 RX3 yX3_runMinutes wsX3_runMinutes) := goodIn_app (goodIn_of _ (by decide +kernel)) ggX11_carryOut_X3_runMinutes
set_option maxRecDepth 20000 in
theorem ggX11_carryOut_X8_halt : GoodIn wsX11_carryOut wsX8_halt := goodIn_r _ [104, 98, 50, 105, 126, 127, 128, 129, 130, 131, 132, 133, 134, 135, 136, 137, 138, 139, 140] rfl (by decide +kernel)
set_option maxRecDepth 20000 in
theorem gX11_carryOut_X8_halt : GoodIn wsX11_carryOut (wsV RX11 358 RX8 yX8_halt wsX8_halt) := goodIn_app (goodIn_of _ (by decide +kernel)) ggX11_carryOut_X8_halt
set_option maxRecDepth 20000 in
theorem ggX11_carryOut_X8_discard : GoodIn wsX11_carryOut wsX8_discard := goodIn_r _ [109, 66, 51, 126, 127, 128, 129, 130, 131, 132, 133, 134, 135, 136, 137, 138, 139, 140] rfl (by decide +kernel)
set_option maxRecDepth 20000 in
theorem gX11_carryOut_X8_discard : GoodIn wsX11_carryOut (wsV RX11 366 RX8 yX8_discard wsX8_discard) := goodIn_app (goodIn_of _ (by decide +kernel)) ggX11_carryOut_X8_discard
theorem dX11_carryOut_0 : decode cX11_carryOut 0 = .ok (.getstatic 442, 3) := by decide +kernel
theorem dX11_carryOut_3 : decode cX11_carryOut 3 = .ok (.aload_n 1, 1) := by decide +kernel
theorem dX11_carryOut_4 : decode cX11_carryOut 4 = .ok (.invokevirtual 447, 3) := by decide +kernel
theorem dX11_carryOut_7 : decode cX11_carryOut 7 = .ok (.iaload, 1) := by decide +kernel
theorem dX11_carryOut_8 : decode cX11_carryOut 8 = .ok (.tableswitch 154 1 7 #[44, 56, 75, 94, 109, 124, 138], 44) := by decide +kernel
theorem dX11_carryOut_52 : decode cX11_carryOut 52 = .ok (.aload_n 0, 1) := by decide +kernel
theorem dX11_carryOut_53 : decode cX11_carryOut 53 = .ok (.getfield 67, 3) := by decide +kernel
theorem dX11_carryOut_56 : decode cX11_carryOut 56 = .ok (.iload_n 3, 1) := by decide +kernel
theorem dX11_carryOut_57 : decode cX11_carryOut 57 = .ok (.invokevirtual 298, 3) := by decide +kernel
theorem dX11_carryOut_60 : decode cX11_carryOut 60 = .ok (.pop, 1) := by decide +kernel
theorem dX11_carryOut_61 : decode cX11_carryOut 61 = .ok (.goto 112, 3) := by decide +kernel
theorem dX11_carryOut_64 : decode cX11_carryOut 64 = .ok (.aload_n 0, 1) := by decide +kernel
theorem dX11_carryOut_65 : decode cX11_carryOut 65 = .ok (.getfield 67, 3) := by decide +kernel
theorem dX11_carryOut_68 : decode cX11_carryOut 68 = .ok (.getfield 139, 3) := by decide +kernel
theorem dX11_carryOut_71 : decode cX11_carryOut 71 = .ok (.dup, 1) := by decide +kernel
theorem dX11_carryOut_72 : decode cX11_carryOut 72 = .ok (.getfield 149, 3) := by decide +kernel
theorem dX11_carryOut_75 : decode cX11_carryOut 75 = .ok (.iload_n 3, 1) := by decide +kernel
theorem dX11_carryOut_76 : decode cX11_carryOut 76 = .ok (.iadd, 1) := by decide +kernel
theorem dX11_carryOut_77 : decode cX11_carryOut 77 = .ok (.putfield 149, 3) := by decide +kernel
theorem dX11_carryOut_80 : decode cX11_carryOut 80 = .ok (.goto 93, 3) := by decide +kernel
theorem dX11_carryOut_83 : decode cX11_carryOut 83 = .ok (.aload_n 0, 1) := by decide +kernel
theorem dX11_carryOut_84 : decode cX11_carryOut 84 = .ok (.getfield 67, 3) := by decide +kernel
theorem dX11_carryOut_87 : decode cX11_carryOut 87 = .ok (.getfield 139, 3) := by decide +kernel
theorem dX11_carryOut_90 : decode cX11_carryOut 90 = .ok (.dup, 1) := by decide +kernel
theorem dX11_carryOut_91 : decode cX11_carryOut 91 = .ok (.getfield 149, 3) := by decide +kernel
theorem dX11_carryOut_94 : decode cX11_carryOut 94 = .ok (.iload_n 3, 1) := by decide +kernel
theorem dX11_carryOut_95 : decode cX11_carryOut 95 = .ok (.isub, 1) := by decide +kernel
theorem dX11_carryOut_96 : decode cX11_carryOut 96 = .ok (.putfield 149, 3) := by decide +kernel
theorem dX11_carryOut_99 : decode cX11_carryOut 99 = .ok (.goto 74, 3) := by decide +kernel
theorem dX11_carryOut_102 : decode cX11_carryOut 102 = .ok (.aload_n 0, 1) := by decide +kernel
theorem dX11_carryOut_103 : decode cX11_carryOut 103 = .ok (.getfield 67, 3) := by decide +kernel
theorem dX11_carryOut_106 : decode cX11_carryOut 106 = .ok (.getfield 139, 3) := by decide +kernel
theorem dX11_carryOut_109 : decode cX11_carryOut 109 = .ok (.iload_n 2, 1) := by decide +kernel
theorem dX11_carryOut_110 : decode cX11_carryOut 110 = .ok (.invokevirtual 358, 3) := by decide +kernel
theorem dX11_carryOut_113 : decode cX11_carryOut 113 = .ok (.pop, 1) := by decide +kernel
theorem dX11_carryOut_114 : decode cX11_carryOut 114 = .ok (.goto 59, 3) := by decide +kernel
theorem dX11_carryOut_117 : decode cX11_carryOut 117 = .ok (.aload_n 0, 1) := by decide +kernel
theorem dX11_carryOut_118 : decode cX11_carryOut 118 = .ok (.getfield 67, 3) := by decide +kernel
theorem dX11_carryOut_121 : decode cX11_carryOut 121 = .ok (.getfield 139, 3) := by decide +kernel
theorem dX11_carryOut_124 : decode cX11_carryOut 124 = .ok (.iload_n 2, 1) := by decide +kernel
theorem dX11_carryOut_125 : decode cX11_carryOut 125 = .ok (.invokevirtual 366, 3) := by decide +kernel
theorem dX11_carryOut_128 : decode cX11_carryOut 128 = .ok (.pop, 1) := by decide +kernel
theorem dX11_carryOut_129 : decode cX11_carryOut 129 = .ok (.goto 44, 3) := by decide +kernel
theorem dX11_carryOut_132 : decode cX11_carryOut 132 = .ok (.aload_n 0, 1) := by decide +kernel
theorem dX11_carryOut_133 : decode cX11_carryOut 133 = .ok (.getfield 67, 3) := by decide +kernel
theorem dX11_carryOut_136 : decode cX11_carryOut 136 = .ok (.getfield 139, 3) := by decide +kernel
theorem dX11_carryOut_139 : decode cX11_carryOut 139 = .ok (.iload_n 3, 1) := by decide +kernel
theorem dX11_carryOut_140 : decode cX11_carryOut 140 = .ok (.putfield 143, 3) := by decide +kernel
theorem dX11_carryOut_143 : decode cX11_carryOut 143 = .ok (.goto 30, 3) := by decide +kernel
theorem dX11_carryOut_146 : decode cX11_carryOut 146 = .ok (.aload_n 0, 1) := by decide +kernel
theorem dX11_carryOut_147 : decode cX11_carryOut 147 = .ok (.getfield 67, 3) := by decide +kernel
theorem dX11_carryOut_150 : decode cX11_carryOut 150 = .ok (.getfield 139, 3) := by decide +kernel
theorem dX11_carryOut_153 : decode cX11_carryOut 153 = .ok (.getfield 196, 3) := by decide +kernel
theorem dX11_carryOut_156 : decode cX11_carryOut 156 = .ok (.iload_n 2, 1) := by decide +kernel
theorem dX11_carryOut_157 : decode cX11_carryOut 157 = .ok (.iload_n 3, 1) := by decide +kernel
theorem dX11_carryOut_158 : decode cX11_carryOut 158 = .ok (.iastore, 1) := by decide +kernel
theorem dX11_carryOut_159 : decode cX11_carryOut 159 = .ok (.goto 14, 3) := by decide +kernel
theorem dX11_carryOut_162 : decode cX11_carryOut 162 = .ok (.aload_n 0, 1) := by decide +kernel
theorem dX11_carryOut_163 : decode cX11_carryOut 163 = .ok (.getfield 67, 3) := by decide +kernel
theorem dX11_carryOut_166 : decode cX11_carryOut 166 = .ok (.getfield 139, 3) := by decide +kernel
theorem dX11_carryOut_169 : decode cX11_carryOut 169 = .ok (.iconst 1, 1) := by decide +kernel
theorem dX11_carryOut_170 : decode cX11_carryOut 170 = .ok (.putfield 350, 3) := by decide +kernel
theorem dX11_carryOut_173 : decode cX11_carryOut 173 = .ok (.return_, 1) := by decide +kernel
theorem dX11_stepsToShareBy_0 : decode cX11_stepsToShareBy 0 = .ok (.iconst 1, 1) := by decide +kernel
theorem dX11_stepsToShareBy_1 : decode cX11_stepsToShareBy 1 = .ok (.aload_n 0, 1) := by decide +kernel
theorem dX11_stepsToShareBy_2 : decode cX11_stepsToShareBy 2 = .ok (.getfield 67, 3) := by decide +kernel
theorem dX11_stepsToShareBy_5 : decode cX11_stepsToShareBy 5 = .ok (.getfield 117, 3) := by decide +kernel
theorem dX11_stepsToShareBy_8 : decode cX11_stepsToShareBy 8 = .ok (.getfield 126, 3) := by decide +kernel
theorem dX11_stepsToShareBy_11 : decode cX11_stepsToShareBy 11 = .ok (.getfield 130, 3) := by decide +kernel
theorem dX11_stepsToShareBy_14 : decode cX11_stepsToShareBy 14 = .ok (.invokestatic 452, 3) := by decide +kernel
theorem dX11_stepsToShareBy_17 : decode cX11_stepsToShareBy 17 = .ok (.ireturn, 1) := by decide +kernel
set_option maxRecDepth 20000 in
theorem ggX11_finishWithCooks_X3_copyFrom : GoodIn wsX11_finishWithCooks wsX3_copyFrom := goodIn_r _ [7, 8, 9, 10, 11, 12, 13, 14, 15, 16, 17, 18, 19, 20, 21, 22, 23, 24, 25, 26, 27, 28, 29, 30, 31, 32, 33, 123, 124, 125, 126, 127, 128, 129, 130, 131, 132, 133, 134, 135, 136, 137, 138, 139, 140, 141, 142] rfl (by decide +kernel)
set_option maxRecDepth 20000 in
theorem gX11_finishWithCooks_X3_copyFrom : GoodIn wsX11_finishWithCooks (wsV RX11 289 RX3 yX3_copyFrom wsX3_copyFrom) := goodIn_app (goodIn_of _ (by decide +kernel)) ggX11_finishWithCooks_X3_copyFrom
set_option maxRecDepth 20000 in
theorem ggX11_finishWithCooks_X3_runToFinish : GoodIn wsX11_finishWithCooks wsX3_runToFinish := goodIn_r _ [37, 9, 8, 38, 39, 40, 6, 41, 42, 43, 44, 45, 46, 47, 48, 49, 50, 51, 52, 53, 54, 55, 56, 57, 58, 59, 60, 61, 62, 63, 64, 65, 66, 67, 68, 69, 70, 71, 72, 73, 74, 13, 75, 21, 22, 32, 76, 77, 78, 79, 80, 81, 82, 83, 84, 85, 86, 87, 23, 30, 33, 88, 89, 90, 91, 92, 93, 94, 95, 96, 97, 98, 99, 100, 101, 102, 103, 104, 105, 106, 107, 108, 109, 110, 111, 29, 24, 31, 123, 124, 125, 126, 127, 128, 129, 130, 131, 132, 133, 134, 135, 136, 137, 138, 139, 140, 141, 142, 143, 144, 145, 146, 147, 148, 149, 150, 151, 152, 153, 154, 155, 156, 157, 158, 159, 160, 161, 162] rfl (by decide +kernel)
set_option maxRecDepth 20000 in
theorem gX11_finishWithCooks_X3_runToFinish : GoodIn wsX11_finishWithCooks (wsV RX11 293 RX3 yX3_runToFinish wsX3_runToFinish) := goodIn_app (goodIn_of _ (by decide +kernel)) ggX11_finishWithCooks_X3_runToFinish
theorem dX11_finishWithCooks_0 : decode cX11_finishWithCooks 0 = .ok (.aload_n 0, 1) := by decide +kernel
theorem dX11_finishWithCooks_1 : decode cX11_finishWithCooks 1 = .ok (.getfield 71, 3) := by decide +kernel
theorem dX11_finishWithCooks_4 : decode cX11_finishWithCooks 4 = .ok (.aload_n 0, 1) := by decide +kernel
theorem dX11_finishWithCooks_5 : decode cX11_finishWithCooks 5 = .ok (.getfield 67, 3) := by decide +kernel
theorem dX11_finishWithCooks_8 : decode cX11_finishWithCooks 8 = .ok (.invokevirtual 289, 3) := by decide +kernel
theorem dX11_finishWithCooks_11 : decode cX11_finishWithCooks 11 = .ok (.aload_n 0, 1) := by decide +kernel
theorem dX11_finishWithCooks_12 : decode cX11_finishWithCooks 12 = .ok (.getfield 71, 3) := by decide +kernel
theorem dX11_finishWithCooks_15 : decode cX11_finishWithCooks 15 = .ok (.getfield 139, 3) := by decide +kernel
theorem dX11_finishWithCooks_18 : decode cX11_finishWithCooks 18 = .ok (.iload_n 1, 1) := by decide +kernel
theorem dX11_finishWithCooks_19 : decode cX11_finishWithCooks 19 = .ok (.putfield 143, 3) := by decide +kernel
theorem dX11_finishWithCooks_22 : decode cX11_finishWithCooks 22 = .ok (.aload_n 0, 1) := by decide +kernel
theorem dX11_finishWithCooks_23 : decode cX11_finishWithCooks 23 = .ok (.getfield 71, 3) := by decide +kernel
theorem dX11_finishWithCooks_26 : decode cX11_finishWithCooks 26 = .ok (.invokevirtual 293, 3) := by decide +kernel
theorem dX11_finishWithCooks_29 : decode cX11_finishWithCooks 29 = .ok (.ireturn, 1) := by decide +kernel
set_option maxRecDepth 20000 in
theorem ggX11_finishWithShorter_X3_copyFrom : GoodIn wsX11_finishWithShorter wsX3_copyFrom := goodIn_r _ [7, 8, 9, 10, 11, 12, 13, 14, 15, 16, 17, 18, 19, 20, 21, 22, 23, 24, 25, 26, 27, 28, 29, 30, 31, 32, 33, 123, 124, 125, 126, 127, 128, 129, 130, 131, 132, 133, 134, 135, 136, 137, 138, 139, 140, 141, 142] rfl (by decide +kernel)
set_option maxRecDepth 20000 in
theorem gX11_finishWithShorter_X3_copyFrom : GoodIn wsX11_finishWithShorter (wsV RX11 289 RX3 yX3_copyFrom wsX3_copyFrom) := goodIn_app (goodIn_of _ (by decide +kernel)) ggX11_finishWithShorter_X3_copyFrom
set_option maxRecDepth 20000 in
theorem ggX11_finishWithShorter_X3_runToFinish : GoodIn wsX11_finishWithShorter wsX3_runToFinish := goodIn_r _ [37, 9, 8, 38, 39, 40, 6, 41, 42, 43, 44, 45, 46, 47, 48, 49, 50, 51, 52, 53, 54, 55, 56, 57, 58, 59, 60, 61, 62, 63, 64, 65, 66, 67, 68, 69, 70, 71, 72, 73, 74, 13, 75, 21, 22, 32, 76, 77, 78, 79, 80, 81, 82, 83, 84, 85, 86, 87, 23, 30, 33, 88, 89, 90, 91, 92, 93, 94, 95, 96, 97, 98, 99, 100, 101, 102, 103, 104, 105, 106, 107, 108, 109, 110, 111, 29, 24, 31, 123, 124, 125, 126, 127, 128, 129, 130, 131, 132, 133, 134, 135, 136, 137, 138, 139, 140, 141, 142, 143, 144, 145, 146, 147, 148, 149, 150, 151, 152, 153, 154, 155, 156, 157, 158, 159, 160, 161, 162] rfl (by decide +kernel)
set_option maxRecDepth 20000 in
theorem gX11_finishWithShorter_X3_runToFinish : GoodIn wsX11_finishWithShorter (wsV RX11 293 RX3 yX3_runToFinish wsX3_runToFinish) := goodIn_app (goodIn_of _ (by decide +kernel)) ggX11_finishWithShorter_X3_runToFinish
theorem dX11_finishWithShorter_0 : decode cX11_finishWithShorter 0 = .ok (.aload_n 0, 1) := by decide +kernel
theorem dX11_finishWithShorter_1 : decode cX11_finishWithShorter 1 = .ok (.getfield 71, 3) := by decide +kernel
theorem dX11_finishWithShorter_4 : decode cX11_finishWithShorter 4 = .ok (.aload_n 0, 1) := by decide +kernel
theorem dX11_finishWithShorter_5 : decode cX11_finishWithShorter 5 = .ok (.getfield 67, 3) := by decide +kernel
theorem dX11_finishWithShorter_8 : decode cX11_finishWithShorter 8 = .ok (.invokevirtual 289, 3) := by decide +kernel
theorem dX11_finishWithShorter_11 : decode cX11_finishWithShorter 11 = .ok (.aload_n 0, 1) := by decide +kernel
theorem dX11_finishWithShorter_12 : decode cX11_finishWithShorter 12 = .ok (.getfield 71, 3) := by decide +kernel
theorem dX11_finishWithShorter_15 : decode cX11_finishWithShorter 15 = .ok (.getfield 139, 3) := by decide +kernel
theorem dX11_finishWithShorter_18 : decode cX11_finishWithShorter 18 = .ok (.getfield 196, 3) := by decide +kernel
theorem dX11_finishWithShorter_21 : decode cX11_finishWithShorter 21 = .ok (.iload_n 1, 1) := by decide +kernel
theorem dX11_finishWithShorter_22 : decode cX11_finishWithShorter 22 = .ok (.iaload, 1) := by decide +kernel
theorem dX11_finishWithShorter_23 : decode cX11_finishWithShorter 23 = .ok (.iconst 1, 1) := by decide +kernel
theorem dX11_finishWithShorter_24 : decode cX11_finishWithShorter 24 = .ok (.if_icmp .le 19, 3) := by decide +kernel
theorem dX11_finishWithShorter_27 : decode cX11_finishWithShorter 27 = .ok (.aload_n 0, 1) := by decide +kernel
theorem dX11_finishWithShorter_28 : decode cX11_finishWithShorter 28 = .ok (.getfield 71, 3) := by decide +kernel
theorem dX11_finishWithShorter_31 : decode cX11_finishWithShorter 31 = .ok (.getfield 139, 3) := by decide +kernel
theorem dX11_finishWithShorter_34 : decode cX11_finishWithShorter 34 = .ok (.getfield 196, 3) := by decide +kernel
theorem dX11_finishWithShorter_37 : decode cX11_finishWithShorter 37 = .ok (.iload_n 1, 1) := by decide +kernel
theorem dX11_finishWithShorter_38 : decode cX11_finishWithShorter 38 = .ok (.dup2, 1) := by decide +kernel
theorem dX11_finishWithShorter_39 : decode cX11_finishWithShorter 39 = .ok (.iaload, 1) := by decide +kernel
theorem dX11_finishWithShorter_40 : decode cX11_finishWithShorter 40 = .ok (.iconst 1, 1) := by decide +kernel
theorem dX11_finishWithShorter_41 : decode cX11_finishWithShorter 41 = .ok (.isub, 1) := by decide +kernel
theorem dX11_finishWithShorter_42 : decode cX11_finishWithShorter 42 = .ok (.iastore, 1) := by decide +kernel
theorem dX11_finishWithShorter_43 : decode cX11_finishWithShorter 43 = .ok (.aload_n 0, 1) := by decide +kernel
theorem dX11_finishWithShorter_44 : decode cX11_finishWithShorter 44 = .ok (.getfield 71, 3) := by decide +kernel
theorem dX11_finishWithShorter_47 : decode cX11_finishWithShorter 47 = .ok (.invokevirtual 293, 3) := by decide +kernel
theorem dX11_finishWithShorter_50 : decode cX11_finishWithShorter 50 = .ok (.istore_n 2, 1) := by decide +kernel
theorem dX11_finishWithShorter_51 : decode cX11_finishWithShorter 51 = .ok (.iload_n 2, 1) := by decide +kernel
theorem dX11_finishWithShorter_52 : decode cX11_finishWithShorter 52 = .ok (.iconst (-1), 1) := by decide +kernel
theorem dX11_finishWithShorter_53 : decode cX11_finishWithShorter 53 = .ok (.if_icmp .ne 9, 3) := by decide +kernel
theorem dX11_finishWithShorter_56 : decode cX11_finishWithShorter 56 = .ok (.sipush 501, 3) := by decide +kernel
theorem dX11_finishWithShorter_59 : decode cX11_finishWithShorter 59 = .ok (.goto 4, 3) := by decide +kernel
theorem dX11_finishWithShorter_62 : decode cX11_finishWithShorter 62 = .ok (.iload_n 2, 1) := by decide +kernel
theorem dX11_finishWithShorter_63 : decode cX11_finishWithShorter 63 = .ok (.ireturn, 1) := by decide +kernel
set_option maxRecDepth 20000 in
theorem ggX11_writeProgress_X8_statusOf : GoodIn wsX11_writeProgress wsX8_statusOf := goodIn_r _ [7, 8, 9, 10, 11, 12, 13, 42, 43, 44, 45, 46, 47, 48, 49, 50, 51, 52, 53, 54, 55, 56] rfl (by decide +kernel)
set_option maxRecDepth 20000 in
theorem gX11_writeProgress_X8_statusOf : GoodIn wsX11_writeProgress (wsV RX11 158 RX8 yX8_statusOf wsX8_statusOf) := goodIn_app (goodIn_of _ (by decide +kernel)) ggX11_writeProgress_X8_statusOf
set_option maxRecDepth 20000 in
theorem ggX11_writeProgress_X9_addByte : GoodIn wsX11_writeProgress wsX9_addByte := goodIn_r _ [18, 19, 20, 57, 58] rfl (by decide +kernel)
set_option maxRecDepth 20000 in
theorem gX11_writeProgress_X9_addByte : GoodIn wsX11_writeProgress (wsV RX11 410 RX9 yX9_addByte wsX9_addByte) := goodIn_app (goodIn_of _ (by decide +kernel)) ggX11_writeProgress_X9_addByte
set_option maxRecDepth 20000 in
theorem ggX11_writeProgress_X9_addTwoDigits : GoodIn wsX11_writeProgress wsX9_addTwoDigits := goodIn_r _ [24, 25, 15, 16, 17, 18, 19, 20, 57, 58] rfl (by decide +kernel)
set_option maxRecDepth 20000 in
theorem gX11_writeProgress_X9_addTwoDigits : GoodIn wsX11_writeProgress (wsV RX11 458 RX9 yX9_addTwoDigits wsX9_addTwoDigits) := goodIn_app (goodIn_of _ (by decide +kernel)) ggX11_writeProgress_X9_addTwoDigits
theorem dX11_writeProgress_0 : decode cX11_writeProgress 0 = .ok (.aload_n 0, 1) := by decide +kernel
theorem dX11_writeProgress_1 : decode cX11_writeProgress 1 = .ok (.getfield 67, 3) := by decide +kernel
theorem dX11_writeProgress_4 : decode cX11_writeProgress 4 = .ok (.getfield 139, 3) := by decide +kernel
theorem dX11_writeProgress_7 : decode cX11_writeProgress 7 = .ok (.iload_n 1, 1) := by decide +kernel
theorem dX11_writeProgress_8 : decode cX11_writeProgress 8 = .ok (.invokevirtual 158, 3) := by decide +kernel
theorem dX11_writeProgress_11 : decode cX11_writeProgress 11 = .ok (.tableswitch 71 0 2 #[25, 37, 59], 25) := by decide +kernel
theorem dX11_writeProgress_36 : decode cX11_writeProgress 36 = .ok (.aload_n 0, 1) := by decide +kernel
theorem dX11_writeProgress_37 : decode cX11_writeProgress 37 = .ok (.getfield 45, 3) := by decide +kernel
theorem dX11_writeProgress_40 : decode cX11_writeProgress 40 = .ok (.bipush 46, 2) := by decide +kernel
theorem dX11_writeProgress_42 : decode cX11_writeProgress 42 = .ok (.invokevirtual 410, 3) := by decide +kernel
theorem dX11_writeProgress_45 : decode cX11_writeProgress 45 = .ok (.goto 46, 3) := by decide +kernel
theorem dX11_writeProgress_48 : decode cX11_writeProgress 48 = .ok (.aload_n 0, 1) := by decide +kernel
theorem dX11_writeProgress_49 : decode cX11_writeProgress 49 = .ok (.getfield 45, 3) := by decide +kernel
theorem dX11_writeProgress_52 : decode cX11_writeProgress 52 = .ok (.aload_n 0, 1) := by decide +kernel
theorem dX11_writeProgress_53 : decode cX11_writeProgress 53 = .ok (.getfield 67, 3) := by decide +kernel
theorem dX11_writeProgress_56 : decode cX11_writeProgress 56 = .ok (.getfield 139, 3) := by decide +kernel
theorem dX11_writeProgress_59 : decode cX11_writeProgress 59 = .ok (.getfield 255, 3) := by decide +kernel
theorem dX11_writeProgress_62 : decode cX11_writeProgress 62 = .ok (.iload_n 1, 1) := by decide +kernel
theorem dX11_writeProgress_63 : decode cX11_writeProgress 63 = .ok (.iaload, 1) := by decide +kernel
theorem dX11_writeProgress_64 : decode cX11_writeProgress 64 = .ok (.invokevirtual 458, 3) := by decide +kernel
theorem dX11_writeProgress_67 : decode cX11_writeProgress 67 = .ok (.goto 24, 3) := by decide +kernel
theorem dX11_writeProgress_70 : decode cX11_writeProgress 70 = .ok (.aload_n 0, 1) := by decide +kernel
theorem dX11_writeProgress_71 : decode cX11_writeProgress 71 = .ok (.getfield 45, 3) := by decide +kernel
theorem dX11_writeProgress_74 : decode cX11_writeProgress 74 = .ok (.bipush 61, 2) := by decide +kernel
theorem dX11_writeProgress_76 : decode cX11_writeProgress 76 = .ok (.invokevirtual 410, 3) := by decide +kernel
theorem dX11_writeProgress_79 : decode cX11_writeProgress 79 = .ok (.goto 12, 3) := by decide +kernel
theorem dX11_writeProgress_82 : decode cX11_writeProgress 82 = .ok (.aload_n 0, 1) := by decide +kernel
theorem dX11_writeProgress_83 : decode cX11_writeProgress 83 = .ok (.getfield 45, 3) := by decide +kernel
theorem dX11_writeProgress_86 : decode cX11_writeProgress 86 = .ok (.bipush 42, 2) := by decide +kernel
theorem dX11_writeProgress_88 : decode cX11_writeProgress 88 = .ok (.invokevirtual 410, 3) := by decide +kernel
theorem dX11_writeProgress_91 : decode cX11_writeProgress 91 = .ok (.return_, 1) := by decide +kernel
theorem dX11_isWithin_0 : decode cX11_isWithin 0 = .ok (.iload_n 1, 1) := by decide +kernel
theorem dX11_isWithin_1 : decode cX11_isWithin 1 = .ok (.iload_n 0, 1) := by decide +kernel
theorem dX11_isWithin_2 : decode cX11_isWithin 2 = .ok (.if_icmp .gt 12, 3) := by decide +kernel
theorem dX11_isWithin_5 : decode cX11_isWithin 5 = .ok (.iload_n 0, 1) := by decide +kernel
theorem dX11_isWithin_6 : decode cX11_isWithin 6 = .ok (.iload_n 2, 1) := by decide +kernel
theorem dX11_isWithin_7 : decode cX11_isWithin 7 = .ok (.if_icmp .gt 7, 3) := by decide +kernel
theorem dX11_isWithin_10 : decode cX11_isWithin 10 = .ok (.iconst 1, 1) := by decide +kernel
theorem dX11_isWithin_11 : decode cX11_isWithin 11 = .ok (.goto 4, 3) := by decide +kernel
theorem dX11_isWithin_14 : decode cX11_isWithin 14 = .ok (.iconst 0, 1) := by decide +kernel
theorem dX11_isWithin_15 : decode cX11_isWithin 15 = .ok (.ireturn, 1) := by decide +kernel
theorem dX11_contains_0 : decode cX11_contains 0 = .ok (.iload_n 0, 1) := by decide +kernel
theorem dX11_contains_1 : decode cX11_contains 1 = .ok (.iload_n 1, 1) := by decide +kernel
theorem dX11_contains_2 : decode cX11_contains 2 = .ok (.ishr, 1) := by decide +kernel
theorem dX11_contains_3 : decode cX11_contains 3 = .ok (.iconst 1, 1) := by decide +kernel
theorem dX11_contains_4 : decode cX11_contains 4 = .ok (.iand, 1) := by decide +kernel
theorem dX11_contains_5 : decode cX11_contains 5 = .ok (.ifCond .eq 7, 3) := by decide +kernel
theorem dX11_contains_8 : decode cX11_contains 8 = .ok (.iconst 1, 1) := by decide +kernel
theorem dX11_contains_9 : decode cX11_contains 9 = .ok (.goto 4, 3) := by decide +kernel
theorem dX11_contains_12 : decode cX11_contains 12 = .ok (.iconst 0, 1) := by decide +kernel
theorem dX11_contains_13 : decode cX11_contains 13 = .ok (.ireturn, 1) := by decide +kernel
set_option maxRecDepth 20000 in
theorem ggX11_lowestOf_X11_contains : GoodIn wsX11_lowestOf wsX11_contains := goodIn_r _ [4] rfl (by decide +kernel)
set_option maxRecDepth 20000 in
theorem gX11_lowestOf_X11_contains : GoodIn wsX11_lowestOf (va_wsS RX11 208 yX11_contains wsX11_contains) := goodIn_app (goodIn_of _ (by decide +kernel)) ggX11_lowestOf_X11_contains
theorem dX11_lowestOf_0 : decode cX11_lowestOf 0 = .ok (.iconst 0, 1) := by decide +kernel
theorem dX11_lowestOf_1 : decode cX11_lowestOf 1 = .ok (.istore_n 1, 1) := by decide +kernel
theorem dX11_lowestOf_2 : decode cX11_lowestOf 2 = .ok (.iload_n 1, 1) := by decide +kernel
theorem dX11_lowestOf_3 : decode cX11_lowestOf 3 = .ok (.bipush 14, 2) := by decide +kernel
theorem dX11_lowestOf_5 : decode cX11_lowestOf 5 = .ok (.if_icmp .ge 19, 3) := by decide +kernel
theorem dX11_lowestOf_8 : decode cX11_lowestOf 8 = .ok (.iload_n 0, 1) := by decide +kernel
theorem dX11_lowestOf_9 : decode cX11_lowestOf 9 = .ok (.iload_n 1, 1) := by decide +kernel
theorem dX11_lowestOf_10 : decode cX11_lowestOf 10 = .ok (.invokestatic 208, 3) := by decide +kernel
theorem dX11_lowestOf_13 : decode cX11_lowestOf 13 = .ok (.ifCond .eq 5, 3) := by decide +kernel
theorem dX11_lowestOf_16 : decode cX11_lowestOf 16 = .ok (.iload_n 1, 1) := by decide +kernel
theorem dX11_lowestOf_17 : decode cX11_lowestOf 17 = .ok (.ireturn, 1) := by decide +kernel
theorem dX11_lowestOf_18 : decode cX11_lowestOf 18 = .ok (.iinc 1 1, 3) := by decide +kernel
theorem dX11_lowestOf_21 : decode cX11_lowestOf 21 = .ok (.goto (-19), 3) := by decide +kernel
theorem dX11_lowestOf_24 : decode cX11_lowestOf 24 = .ok (.iconst (-1), 1) := by decide +kernel
theorem dX11_lowestOf_25 : decode cX11_lowestOf 25 = .ok (.ireturn, 1) := by decide +kernel
theorem dX11_sum_0 : decode cX11_sum 0 = .ok (.iconst 0, 1) := by decide +kernel
theorem dX11_sum_1 : decode cX11_sum 1 = .ok (.istore_n 2, 1) := by decide +kernel
theorem dX11_sum_2 : decode cX11_sum 2 = .ok (.iconst 0, 1) := by decide +kernel
theorem dX11_sum_3 : decode cX11_sum 3 = .ok (.istore_n 3, 1) := by decide +kernel
theorem dX11_sum_4 : decode cX11_sum 4 = .ok (.iload_n 3, 1) := by decide +kernel
theorem dX11_sum_5 : decode cX11_sum 5 = .ok (.iload_n 1, 1) := by decide +kernel
theorem dX11_sum_6 : decode cX11_sum 6 = .ok (.if_icmp .ge 21, 3) := by decide +kernel
theorem dX11_sum_9 : decode cX11_sum 9 = .ok (.iload_n 3, 1) := by decide +kernel
theorem dX11_sum_10 : decode cX11_sum 10 = .ok (.aload_n 0, 1) := by decide +kernel
theorem dX11_sum_11 : decode cX11_sum 11 = .ok (.arraylength, 1) := by decide +kernel
theorem dX11_sum_12 : decode cX11_sum 12 = .ok (.if_icmp .ge 15, 3) := by decide +kernel
theorem dX11_sum_15 : decode cX11_sum 15 = .ok (.iload_n 2, 1) := by decide +kernel
theorem dX11_sum_16 : decode cX11_sum 16 = .ok (.aload_n 0, 1) := by decide +kernel
theorem dX11_sum_17 : decode cX11_sum 17 = .ok (.iload_n 3, 1) := by decide +kernel
theorem dX11_sum_18 : decode cX11_sum 18 = .ok (.iaload, 1) := by decide +kernel
theorem dX11_sum_19 : decode cX11_sum 19 = .ok (.iadd, 1) := by decide +kernel
theorem dX11_sum_20 : decode cX11_sum 20 = .ok (.istore_n 2, 1) := by decide +kernel
theorem dX11_sum_21 : decode cX11_sum 21 = .ok (.iinc 3 1, 3) := by decide +kernel
theorem dX11_sum_24 : decode cX11_sum 24 = .ok (.goto (-20), 3) := by decide +kernel
theorem dX11_sum_27 : decode cX11_sum 27 = .ok (.iload_n 2, 1) := by decide +kernel
theorem dX11_sum_28 : decode cX11_sum 28 = .ok (.ireturn, 1) := by decide +kernel
theorem dX12_thrown_0 : decode cX12_thrown 0 = .ok (.aload_n 0, 1) := by decide +kernel
theorem dX12_thrown_1 : decode cX12_thrown 1 = .ok (.getfield 1, 3) := by decide +kernel
theorem dX12_thrown_4 : decode cX12_thrown 4 = .ok (.ireturn, 1) := by decide +kernel
set_option maxRecDepth 20000 in
theorem ggX12_init_J0_length_8abf5 : GoodIn wsX12_init wsJ0_length_8abf5 := goodIn_r _ [29, 30, 31, 32, 33, 28, 34, 35, 36] rfl (by decide +kernel)
set_option maxRecDepth 20000 in
theorem gX12_init_J0_length_8abf5 : GoodIn wsX12_init (wsV RX12 71 RJ0 yJ0_length_8abf5 wsJ0_length_8abf5) := goodIn_app (goodIn_of _ (by decide +kernel)) ggX12_init_J0_length_8abf5
set_option maxRecDepth 20000 in
theorem ggX12_init_J0_charAt_5068e : GoodIn wsX12_init wsJ0_charAt_5068e := goodIn_r _ [40, 30, 41, 42, 43, 28, 44, 35, 36, 45, 46, 47, 48, 49, 50, 51, 52, 53, 54, 55, 56, 57, 58, 59, 60, 61, 62, 63, 64, 65, 66, 67, 68, 69, 70, 71, 72, 73] rfl (by decide +kernel)
set_option maxRecDepth 20000 in
theorem gX12_init_J0_charAt_5068e : GoodIn wsX12_init (wsV RX12 76 RJ0 yJ0_charAt_5068e wsJ0_charAt_5068e) := goodIn_app (goodIn_of _ (by decide +kernel)) ggX12_init_J0_charAt_5068e
set_option maxRecDepth 20000 in
theorem ggX12_init_X12_begin : GoodIn wsX12_init wsX12_begin := goodIn_r _ [78, 11, 12, 20, 79, 80, 81, 77, 82, 10, 9, 22, 21, 23, 83, 84, 85, 86, 87, 88, 152, 153, 154, 155, 156, 157, 158, 159, 160, 161, 162, 163, 164, 165, 166, 167, 168, 169, 170] rfl (by decide +kernel)
set_option maxRecDepth 20000 in
theorem gX12_init_X12_begin : GoodIn wsX12_init (wsV RX12 80 RX12 yX12_begin wsX12_begin) := goodIn_app (goodIn_of _ (by decide +kernel)) ggX12_init_X12_begin
set_option maxRecDepth 20000 in
theorem ggX12_init_X12_parseSetup : GoodIn wsX12_init wsX12_parseSetup := goodIn_r _ [92, 5, 21, 93, 94, 95, 77, 96, 20, 22, 9, 25, 26, 27, 28, 29, 30, 31, 32, 33, 34, 35, 36, 37, 38, 39, 40, 41, 42, 43, 44, 45, 46, 47, 48, 49, 50, 51, 52, 53, 54, 55, 56, 57, 58, 59, 60, 61, 62, 63, 64, 65, 66, 67, 68, 69, 70, 71, 72, 73, 97, 98, 99, 100, 11, 12, 79, 80, 81, 82, 10, 23, 83, 84, 85, 86, 87, 88, 101, 102, 103, 104, 105, 106, 107, 108, 109, 110, 111, 112, 113, 114, 115, 116, 117, 118, 119, 120, 121, 122, 123, 124, 125, 126, 127, 128, 129, 130, 131, 132, 133, 134, 135, 136, 137, 138, 139, 140, 141, 142, 143, 144, 145, 146, 147, 148, 149, 150, 151, 152, 153, 154, 155, 156, 157, 158, 159, 160, 161, 162, 163, 164, 165, 166, 167, 168, 169, 170] rfl (by decide +kernel)
set_option maxRecDepth 20000 in
theorem gX12_init_X12_parseSetup : GoodIn wsX12_init (wsV RX12 83 RX12 yX12_parseSetup wsX12_parseSetup) := goodIn_app (goodIn_of _ (by decide +kernel)) ggX12_init_X12_parseSetup
theorem dX12_init_0 : decode cX12_init 0 = .ok (.aload_n 0, 1) := by decide +kernel
theorem dX12_init_1 : decode cX12_init 1 = .ok (.invokespecial 7, 3) := by decide +kernel
theorem dX12_init_4 : decode cX12_init 4 = .ok (.aload_n 0, 1) := by decide +kernel
theorem dX12_init_5 : decode cX12_init 5 = .ok (.sipush 4202, 3) := by decide +kernel
theorem dX12_init_8 : decode cX12_init 8 = .ok (.newarray .int, 2) := by decide +kernel
theorem dX12_init_10 : decode cX12_init 10 = .ok (.putfield 13, 3) := by decide +kernel
theorem dX12_init_13 : decode cX12_init 13 = .ok (.aload_n 0, 1) := by decide +kernel
theorem dX12_init_14 : decode cX12_init 14 = .ok (.iconst 2, 1) := by decide +kernel
theorem dX12_init_15 : decode cX12_init 15 = .ok (.newarray .boolean, 2) := by decide +kernel
theorem dX12_init_17 : decode cX12_init 17 = .ok (.putfield 17, 3) := by decide +kernel
theorem dX12_init_20 : decode cX12_init 20 = .ok (.aload_n 0, 1) := by decide +kernel
theorem dX12_init_21 : decode cX12_init 21 = .ok (.iconst 0, 1) := by decide +kernel
theorem dX12_init_22 : decode cX12_init 22 = .ok (.putfield 21, 3) := by decide +kernel
theorem dX12_init_25 : decode cX12_init 25 = .ok (.aload_n 0, 1) := by decide +kernel
theorem dX12_init_26 : decode cX12_init 26 = .ok (.sipush 700, 3) := by decide +kernel
theorem dX12_init_29 : decode cX12_init 29 = .ok (.newarray .int, 2) := by decide +kernel
theorem dX12_init_31 : decode cX12_init 31 = .ok (.putfield 24, 3) := by decide +kernel
theorem dX12_init_34 : decode cX12_init 34 = .ok (.aload_n 0, 1) := by decide +kernel
theorem dX12_init_35 : decode cX12_init 35 = .ok (.iconst 0, 1) := by decide +kernel
theorem dX12_init_36 : decode cX12_init 36 = .ok (.putfield 27, 3) := by decide +kernel
theorem dX12_init_39 : decode cX12_init 39 = .ok (.aload_n 0, 1) := by decide +kernel
theorem dX12_init_40 : decode cX12_init 40 = .ok (.iconst 0, 1) := by decide +kernel
theorem dX12_init_41 : decode cX12_init 41 = .ok (.putfield 30, 3) := by decide +kernel
theorem dX12_init_44 : decode cX12_init 44 = .ok (.aload_n 0, 1) := by decide +kernel
theorem dX12_init_45 : decode cX12_init 45 = .ok (.iconst (-1), 1) := by decide +kernel
theorem dX12_init_46 : decode cX12_init 46 = .ok (.putfield 33, 3) := by decide +kernel
theorem dX12_init_49 : decode cX12_init 49 = .ok (.aload_n 0, 1) := by decide +kernel
theorem dX12_init_50 : decode cX12_init 50 = .ok (.sipush 150, 3) := by decide +kernel
theorem dX12_init_53 : decode cX12_init 53 = .ok (.newarray .int, 2) := by decide +kernel
theorem dX12_init_55 : decode cX12_init 55 = .ok (.putfield 36, 3) := by decide +kernel
theorem dX12_init_58 : decode cX12_init 58 = .ok (.aload_n 0, 1) := by decide +kernel
theorem dX12_init_59 : decode cX12_init 59 = .ok (.iconst 0, 1) := by decide +kernel
theorem dX12_init_60 : decode cX12_init 60 = .ok (.putfield 39, 3) := by decide +kernel
theorem dX12_init_63 : decode cX12_init 63 = .ok (.aload_n 0, 1) := by decide +kernel
theorem dX12_init_64 : decode cX12_init 64 = .ok (.iconst 0, 1) := by decide +kernel
theorem dX12_init_65 : decode cX12_init 65 = .ok (.putfield 1, 3) := by decide +kernel
theorem dX12_init_68 : decode cX12_init 68 = .ok (.aload_n 0, 1) := by decide +kernel
theorem dX12_init_69 : decode cX12_init 69 = .ok (.bipush 14, 2) := by decide +kernel
theorem dX12_init_71 : decode cX12_init 71 = .ok (.newarray .int, 2) := by decide +kernel
theorem dX12_init_73 : decode cX12_init 73 = .ok (.putfield 42, 3) := by decide +kernel
theorem dX12_init_76 : decode cX12_init 76 = .ok (.aload_n 0, 1) := by decide +kernel
theorem dX12_init_77 : decode cX12_init 77 = .ok (.bipush 14, 2) := by decide +kernel
theorem dX12_init_79 : decode cX12_init 79 = .ok (.newarray .int, 2) := by decide +kernel
theorem dX12_init_81 : decode cX12_init 81 = .ok (.putfield 45, 3) := by decide +kernel
theorem dX12_init_84 : decode cX12_init 84 = .ok (.aload_n 0, 1) := by decide +kernel
theorem dX12_init_85 : decode cX12_init 85 = .ok (.bipush 14, 2) := by decide +kernel
theorem dX12_init_87 : decode cX12_init 87 = .ok (.newarray .boolean, 2) := by decide +kernel
theorem dX12_init_89 : decode cX12_init 89 = .ok (.putfield 48, 3) := by decide +kernel
theorem dX12_init_92 : decode cX12_init 92 = .ok (.aload_n 0, 1) := by decide +kernel
theorem dX12_init_93 : decode cX12_init 93 = .ok (.bipush 14, 2) := by decide +kernel
theorem dX12_init_95 : decode cX12_init 95 = .ok (.newarray .int, 2) := by decide +kernel
theorem dX12_init_97 : decode cX12_init 97 = .ok (.putfield 51, 3) := by decide +kernel
theorem dX12_init_100 : decode cX12_init 100 = .ok (.aload_n 0, 1) := by decide +kernel
theorem dX12_init_101 : decode cX12_init 101 = .ok (.iconst 0, 1) := by decide +kernel
theorem dX12_init_102 : decode cX12_init 102 = .ok (.putfield 54, 3) := by decide +kernel
theorem dX12_init_105 : decode cX12_init 105 = .ok (.aload_n 0, 1) := by decide +kernel
theorem dX12_init_106 : decode cX12_init 106 = .ok (.iconst 0, 1) := by decide +kernel
theorem dX12_init_107 : decode cX12_init 107 = .ok (.putfield 57, 3) := by decide +kernel
theorem dX12_init_110 : decode cX12_init 110 = .ok (.aload_n 0, 1) := by decide +kernel
theorem dX12_init_111 : decode cX12_init 111 = .ok (.iconst 0, 1) := by decide +kernel
theorem dX12_init_112 : decode cX12_init 112 = .ok (.putfield 60, 3) := by decide +kernel
theorem dX12_init_115 : decode cX12_init 115 = .ok (.aload_n 0, 1) := by decide +kernel
theorem dX12_init_116 : decode cX12_init 116 = .ok (.iconst 0, 1) := by decide +kernel
theorem dX12_init_117 : decode cX12_init 117 = .ok (.putfield 63, 3) := by decide +kernel
theorem dX12_init_120 : decode cX12_init 120 = .ok (.aload_n 0, 1) := by decide +kernel
theorem dX12_init_121 : decode cX12_init 121 = .ok (.bipush 90, 2) := by decide +kernel
theorem dX12_init_123 : decode cX12_init 123 = .ok (.newarray .int, 2) := by decide +kernel
theorem dX12_init_125 : decode cX12_init 125 = .ok (.putfield 66, 3) := by decide +kernel
theorem dX12_init_128 : decode cX12_init 128 = .ok (.ldc 69, 2) := by decide +kernel
theorem dX12_init_130 : decode cX12_init 130 = .ok (.astore_n 1, 1) := by decide +kernel
theorem dX12_init_131 : decode cX12_init 131 = .ok (.iconst 0, 1) := by decide +kernel
theorem dX12_init_132 : decode cX12_init 132 = .ok (.istore_n 2, 1) := by decide +kernel
theorem dX12_init_133 : decode cX12_init 133 = .ok (.iload_n 2, 1) := by decide +kernel
theorem dX12_init_134 : decode cX12_init 134 = .ok (.aload_n 1, 1) := by decide +kernel
theorem dX12_init_135 : decode cX12_init 135 = .ok (.invokevirtual 71, 3) := by decide +kernel
theorem dX12_init_138 : decode cX12_init 138 = .ok (.if_icmp .ge 20, 3) := by decide +kernel
theorem dX12_init_141 : decode cX12_init 141 = .ok (.aload_n 0, 1) := by decide +kernel
theorem dX12_init_142 : decode cX12_init 142 = .ok (.getfield 24, 3) := by decide +kernel
theorem dX12_init_145 : decode cX12_init 145 = .ok (.iload_n 2, 1) := by decide +kernel
theorem dX12_init_146 : decode cX12_init 146 = .ok (.aload_n 1, 1) := by decide +kernel
theorem dX12_init_147 : decode cX12_init 147 = .ok (.iload_n 2, 1) := by decide +kernel
theorem dX12_init_148 : decode cX12_init 148 = .ok (.invokevirtual 76, 3) := by decide +kernel
theorem dX12_init_151 : decode cX12_init 151 = .ok (.iastore, 1) := by decide +kernel
theorem dX12_init_152 : decode cX12_init 152 = .ok (.iinc 2 1, 3) := by decide +kernel
theorem dX12_init_155 : decode cX12_init 155 = .ok (.goto (-22), 3) := by decide +kernel
theorem dX12_init_158 : decode cX12_init 158 = .ok (.aload_n 0, 1) := by decide +kernel
theorem dX12_init_159 : decode cX12_init 159 = .ok (.aload_n 1, 1) := by decide +kernel
theorem dX12_init_160 : decode cX12_init 160 = .ok (.invokevirtual 71, 3) := by decide +kernel
theorem dX12_init_163 : decode cX12_init 163 = .ok (.putfield 27, 3) := by decide +kernel
theorem dX12_init_166 : decode cX12_init 166 = .ok (.aload_n 0, 1) := by decide +kernel
theorem dX12_init_167 : decode cX12_init 167 = .ok (.invokevirtual 80, 3) := by decide +kernel
theorem dX12_init_170 : decode cX12_init 170 = .ok (.aload_n 0, 1) := by decide +kernel
theorem dX12_init_171 : decode cX12_init 171 = .ok (.invokevirtual 83, 3) := by decide +kernel
theorem dX12_init_174 : decode cX12_init 174 = .ok (.pop, 1) := by decide +kernel
theorem dX12_init_175 : decode cX12_init 175 = .ok (.aload_n 0, 1) := by decide +kernel
theorem dX12_init_176 : decode cX12_init 176 = .ok (.iconst 0, 1) := by decide +kernel
theorem dX12_init_177 : decode cX12_init 177 = .ok (.putfield 27, 3) := by decide +kernel
theorem dX12_init_180 : decode cX12_init 180 = .ok (.return_, 1) := by decide +kernel
theorem dX12_fails_0 : decode cX12_fails 0 = .ok (.aload_n 0, 1) := by decide +kernel
theorem dX12_fails_1 : decode cX12_fails 1 = .ok (.iload_n 1, 1) := by decide +kernel
theorem dX12_fails_2 : decode cX12_fails 2 = .ok (.ifCond .eq 7, 3) := by decide +kernel
theorem dX12_fails_5 : decode cX12_fails 5 = .ok (.iconst 1, 1) := by decide +kernel
theorem dX12_fails_6 : decode cX12_fails 6 = .ok (.goto 20, 3) := by decide +kernel
theorem dX12_fails_9 : decode cX12_fails 9 = .ok (.iload_n 2, 1) := by decide +kernel
theorem dX12_fails_10 : decode cX12_fails 10 = .ok (.ifCond .eq 7, 3) := by decide +kernel
theorem dX12_fails_13 : decode cX12_fails 13 = .ok (.iconst 2, 1) := by decide +kernel
theorem dX12_fails_14 : decode cX12_fails 14 = .ok (.goto 12, 3) := by decide +kernel
theorem dX12_fails_17 : decode cX12_fails 17 = .ok (.iload_n 3, 1) := by decide +kernel
theorem dX12_fails_18 : decode cX12_fails 18 = .ok (.ifCond .eq 7, 3) := by decide +kernel
theorem dX12_fails_21 : decode cX12_fails 21 = .ok (.iconst 3, 1) := by decide +kernel
theorem dX12_fails_22 : decode cX12_fails 22 = .ok (.goto 4, 3) := by decide +kernel
theorem dX12_fails_25 : decode cX12_fails 25 = .ok (.iconst 0, 1) := by decide +kernel
theorem dX12_fails_26 : decode cX12_fails 26 = .ok (.putfield 1, 3) := by decide +kernel
theorem dX12_fails_29 : decode cX12_fails 29 = .ok (.aload_n 0, 1) := by decide +kernel
theorem dX12_fails_30 : decode cX12_fails 30 = .ok (.getfield 1, 3) := by decide +kernel
theorem dX12_fails_33 : decode cX12_fails 33 = .ok (.ifCond .le 7, 3) := by decide +kernel
theorem dX12_fails_36 : decode cX12_fails 36 = .ok (.iconst 1, 1) := by decide +kernel
theorem dX12_fails_37 : decode cX12_fails 37 = .ok (.goto 4, 3) := by decide +kernel
theorem dX12_fails_40 : decode cX12_fails 40 = .ok (.iconst 0, 1) := by decide +kernel
theorem dX12_fails_41 : decode cX12_fails 41 = .ok (.ireturn, 1) := by decide +kernel
theorem dX12_in_0 : decode cX12_in 0 = .ok (.iload_n 0, 1) := by decide +kernel
theorem dX12_in_1 : decode cX12_in 1 = .ok (.iload_n 1, 1) := by decide +kernel
theorem dX12_in_2 : decode cX12_in 2 = .ok (.if_icmp .lt 12, 3) := by decide +kernel
theorem dX12_in_5 : decode cX12_in 5 = .ok (.iload_n 0, 1) := by decide +kernel
theorem dX12_in_6 : decode cX12_in 6 = .ok (.iload_n 2, 1) := by decide +kernel
theorem dX12_in_7 : decode cX12_in 7 = .ok (.if_icmp .gt 7, 3) := by decide +kernel
theorem dX12_in_10 : decode cX12_in 10 = .ok (.iconst 1, 1) := by decide +kernel
theorem dX12_in_11 : decode cX12_in 11 = .ok (.goto 4, 3) := by decide +kernel
theorem dX12_in_14 : decode cX12_in 14 = .ok (.iconst 0, 1) := by decide +kernel
theorem dX12_in_15 : decode cX12_in 15 = .ok (.ireturn, 1) := by decide +kernel
set_option maxRecDepth 20000 in
theorem ggX12_isStep_X12_in : GoodIn wsX12_isStep wsX12_in := goodIn_r _ [5] rfl (by decide +kernel)
set_option maxRecDepth 20000 in
theorem gX12_isStep_X12_in : GoodIn wsX12_isStep (va_wsS RX12 87 yX12_in wsX12_in) := goodIn_app (goodIn_of _ (by decide +kernel)) ggX12_isStep_X12_in
theorem dX12_isStep_0 : decode cX12_isStep 0 = .ok (.iload_n 1, 1) := by decide +kernel
theorem dX12_isStep_1 : decode cX12_isStep 1 = .ok (.iconst 0, 1) := by decide +kernel
theorem dX12_isStep_2 : decode cX12_isStep 2 = .ok (.aload_n 0, 1) := by decide +kernel
theorem dX12_isStep_3 : decode cX12_isStep 3 = .ok (.getfield 13, 3) := by decide +kernel
theorem dX12_isStep_6 : decode cX12_isStep 6 = .ok (.bipush 13, 2) := by decide +kernel
theorem dX12_isStep_8 : decode cX12_isStep 8 = .ok (.iaload, 1) := by decide +kernel
theorem dX12_isStep_9 : decode cX12_isStep 9 = .ok (.iconst 1, 1) := by decide +kernel
theorem dX12_isStep_10 : decode cX12_isStep 10 = .ok (.isub, 1) := by decide +kernel
theorem dX12_isStep_11 : decode cX12_isStep 11 = .ok (.invokestatic 87, 3) := by decide +kernel
theorem dX12_isStep_14 : decode cX12_isStep 14 = .ok (.ireturn, 1) := by decide +kernel
set_option maxRecDepth 20000 in
theorem ggX12_isPan_X12_in : GoodIn wsX12_isPan wsX12_in := goodIn_r _ [5] rfl (by decide +kernel)
set_option maxRecDepth 20000 in
theorem gX12_isPan_X12_in : GoodIn wsX12_isPan (va_wsS RX12 87 yX12_in wsX12_in) := goodIn_app (goodIn_of _ (by decide +kernel)) ggX12_isPan_X12_in
theorem dX12_isPan_0 : decode cX12_isPan 0 = .ok (.iload_n 1, 1) := by decide +kernel
theorem dX12_isPan_1 : decode cX12_isPan 1 = .ok (.iconst 0, 1) := by decide +kernel
theorem dX12_isPan_2 : decode cX12_isPan 2 = .ok (.aload_n 0, 1) := by decide +kernel
theorem dX12_isPan_3 : decode cX12_isPan 3 = .ok (.getfield 13, 3) := by decide +kernel
theorem dX12_isPan_6 : decode cX12_isPan 6 = .ok (.bipush 12, 2) := by decide +kernel
theorem dX12_isPan_8 : decode cX12_isPan 8 = .ok (.iaload, 1) := by decide +kernel
theorem dX12_isPan_9 : decode cX12_isPan 9 = .ok (.iconst 1, 1) := by decide +kernel
theorem dX12_isPan_10 : decode cX12_isPan 10 = .ok (.isub, 1) := by decide +kernel
theorem dX12_isPan_11 : decode cX12_isPan 11 = .ok (.invokestatic 87, 3) := by decide +kernel
theorem dX12_isPan_14 : decode cX12_isPan 14 = .ok (.ireturn, 1) := by decide +kernel
theorem dX12_of_0 : decode cX12_of 0 = .ok (.aload_n 0, 1) := by decide +kernel
theorem dX12_of_1 : decode cX12_of 1 = .ok (.getfield 13, 3) := by decide +kernel
theorem dX12_of_4 : decode cX12_of 4 = .ok (.bipush 46, 2) := by decide +kernel
theorem dX12_of_6 : decode cX12_of 6 = .ok (.iload_n 1, 1) := by decide +kernel
theorem dX12_of_7 : decode cX12_of 7 = .ok (.bipush 24, 2) := by decide +kernel
theorem dX12_of_9 : decode cX12_of 9 = .ok (.imul, 1) := by decide +kernel
theorem dX12_of_10 : decode cX12_of 10 = .ok (.iadd, 1) := by decide +kernel
theorem dX12_of_11 : decode cX12_of 11 = .ok (.iload_n 2, 1) := by decide +kernel
theorem dX12_of_12 : decode cX12_of 12 = .ok (.iadd, 1) := by decide +kernel
theorem dX12_of_13 : decode cX12_of 13 = .ok (.iaload, 1) := by decide +kernel
theorem dX12_of_14 : decode cX12_of 14 = .ok (.ireturn, 1) := by decide +kernel
theorem dX12_set_0 : decode cX12_set 0 = .ok (.aload_n 0, 1) := by decide +kernel
theorem dX12_set_1 : decode cX12_set 1 = .ok (.getfield 13, 3) := by decide +kernel
theorem dX12_set_4 : decode cX12_set 4 = .ok (.bipush 46, 2) := by decide +kernel
theorem dX12_set_6 : decode cX12_set 6 = .ok (.iload_n 1, 1) := by decide +kernel
theorem dX12_set_7 : decode cX12_set 7 = .ok (.bipush 24, 2) := by decide +kernel
theorem dX12_set_9 : decode cX12_set 9 = .ok (.imul, 1) := by decide +kernel
theorem dX12_set_10 : decode cX12_set 10 = .ok (.iadd, 1) := by decide +kernel
theorem dX12_set_11 : decode cX12_set 11 = .ok (.iload_n 2, 1) := by decide +kernel
theorem dX12_set_12 : decode cX12_set 12 = .ok (.iadd, 1) := by decide +kernel
theorem dX12_set_13 : decode cX12_set 13 = .ok (.iload_n 3, 1) := by decide +kernel
theorem dX12_set_14 : decode cX12_set 14 = .ok (.iastore, 1) := by decide +kernel
theorem dX12_set_15 : decode cX12_set 15 = .ok (.return_, 1) := by decide +kernel
theorem dX12_capacity_0 : decode cX12_capacity 0 = .ok (.aload_n 0, 1) := by decide +kernel
theorem dX12_capacity_1 : decode cX12_capacity 1 = .ok (.getfield 13, 3) := by decide +kernel
theorem dX12_capacity_4 : decode cX12_capacity 4 = .ok (.bipush 14, 2) := by decide +kernel
theorem dX12_capacity_6 : decode cX12_capacity 6 = .ok (.iload_n 1, 1) := by decide +kernel
theorem dX12_capacity_7 : decode cX12_capacity 7 = .ok (.bipush 8, 2) := by decide +kernel
theorem dX12_capacity_9 : decode cX12_capacity 9 = .ok (.imul, 1) := by decide +kernel
theorem dX12_capacity_10 : decode cX12_capacity 10 = .ok (.iadd, 1) := by decide +kernel
theorem dX12_capacity_11 : decode cX12_capacity 11 = .ok (.bipush 7, 2) := by decide +kernel
theorem dX12_capacity_13 : decode cX12_capacity 13 = .ok (.iadd, 1) := by decide +kernel
theorem dX12_capacity_14 : decode cX12_capacity 14 = .ok (.iaload, 1) := by decide +kernel
theorem dX12_capacity_15 : decode cX12_capacity 15 = .ok (.ireturn, 1) := by decide +kernel
theorem dX12_copyBlock_0 : decode cX12_copyBlock 0 = .ok (.iconst 0, 1) := by decide +kernel
theorem dX12_copyBlock_1 : decode cX12_copyBlock 1 = .ok (.istore_n 3, 1) := by decide +kernel
theorem dX12_copyBlock_2 : decode cX12_copyBlock 2 = .ok (.iload_n 3, 1) := by decide +kernel
theorem dX12_copyBlock_3 : decode cX12_copyBlock 3 = .ok (.sipush 382, 3) := by decide +kernel
theorem dX12_copyBlock_6 : decode cX12_copyBlock 6 = .ok (.if_icmp .ge 33, 3) := by decide +kernel
theorem dX12_copyBlock_9 : decode cX12_copyBlock 9 = .ok (.aload_n 0, 1) := by decide +kernel
theorem dX12_copyBlock_10 : decode cX12_copyBlock 10 = .ok (.getfield 13, 3) := by decide +kernel
theorem dX12_copyBlock_13 : decode cX12_copyBlock 13 = .ok (.iload_n 2, 1) := by decide +kernel
theorem dX12_copyBlock_14 : decode cX12_copyBlock 14 = .ok (.sipush 382, 3) := by decide +kernel
theorem dX12_copyBlock_17 : decode cX12_copyBlock 17 = .ok (.imul, 1) := by decide +kernel
theorem dX12_copyBlock_18 : decode cX12_copyBlock 18 = .ok (.iload_n 3, 1) := by decide +kernel
theorem dX12_copyBlock_19 : decode cX12_copyBlock 19 = .ok (.iadd, 1) := by decide +kernel
theorem dX12_copyBlock_20 : decode cX12_copyBlock 20 = .ok (.aload_n 0, 1) := by decide +kernel
theorem dX12_copyBlock_21 : decode cX12_copyBlock 21 = .ok (.getfield 13, 3) := by decide +kernel
theorem dX12_copyBlock_24 : decode cX12_copyBlock 24 = .ok (.iload_n 1, 1) := by decide +kernel
theorem dX12_copyBlock_25 : decode cX12_copyBlock 25 = .ok (.sipush 382, 3) := by decide +kernel
theorem dX12_copyBlock_28 : decode cX12_copyBlock 28 = .ok (.imul, 1) := by decide +kernel
theorem dX12_copyBlock_29 : decode cX12_copyBlock 29 = .ok (.iload_n 3, 1) := by decide +kernel
theorem dX12_copyBlock_30 : decode cX12_copyBlock 30 = .ok (.iadd, 1) := by decide +kernel
theorem dX12_copyBlock_31 : decode cX12_copyBlock 31 = .ok (.iaload, 1) := by decide +kernel
theorem dX12_copyBlock_32 : decode cX12_copyBlock 32 = .ok (.iastore, 1) := by decide +kernel
theorem dX12_copyBlock_33 : decode cX12_copyBlock 33 = .ok (.iinc 3 1, 3) := by decide +kernel
theorem dX12_copyBlock_36 : decode cX12_copyBlock 36 = .ok (.goto (-34), 3) := by decide +kernel
theorem dX12_copyBlock_39 : decode cX12_copyBlock 39 = .ok (.return_, 1) := by decide +kernel
set_option maxRecDepth 20000 in
theorem ggX12_remember_X12_copyBlock : GoodIn wsX12_remember wsX12_copyBlock := goodIn_r _ [6, 7, 8, 9, 10, 11, 12, 13, 14, 15, 16, 17, 18, 19, 20, 21, 22, 23, 24, 25, 26] rfl (by decide +kernel)
set_option maxRecDepth 20000 in
theorem gX12_remember_X12_copyBlock : GoodIn wsX12_remember (wsV RX12 91 RX12 yX12_copyBlock wsX12_copyBlock) := goodIn_app (goodIn_of _ (by decide +kernel)) ggX12_remember_X12_copyBlock
theorem dX12_remember_0 : decode cX12_remember 0 = .ok (.aload_n 0, 1) := by decide +kernel
theorem dX12_remember_1 : decode cX12_remember 1 = .ok (.getfield 21, 3) := by decide +kernel
theorem dX12_remember_4 : decode cX12_remember 4 = .ok (.bipush 6, 2) := by decide +kernel
theorem dX12_remember_6 : decode cX12_remember 6 = .ok (.if_icmp .ne 35, 3) := by decide +kernel
theorem dX12_remember_9 : decode cX12_remember 9 = .ok (.iconst 1, 1) := by decide +kernel
theorem dX12_remember_10 : decode cX12_remember 10 = .ok (.istore_n 2, 1) := by decide +kernel
theorem dX12_remember_11 : decode cX12_remember 11 = .ok (.iload_n 2, 1) := by decide +kernel
theorem dX12_remember_12 : decode cX12_remember 12 = .ok (.bipush 6, 2) := by decide +kernel
theorem dX12_remember_14 : decode cX12_remember 14 = .ok (.if_icmp .ge 17, 3) := by decide +kernel
theorem dX12_remember_17 : decode cX12_remember 17 = .ok (.aload_n 0, 1) := by decide +kernel
theorem dX12_remember_18 : decode cX12_remember 18 = .ok (.iload_n 2, 1) := by decide +kernel
theorem dX12_remember_19 : decode cX12_remember 19 = .ok (.iconst 1, 1) := by decide +kernel
theorem dX12_remember_20 : decode cX12_remember 20 = .ok (.iadd, 1) := by decide +kernel
theorem dX12_remember_21 : decode cX12_remember 21 = .ok (.iload_n 2, 1) := by decide +kernel
theorem dX12_remember_22 : decode cX12_remember 22 = .ok (.invokevirtual 91, 3) := by decide +kernel
theorem dX12_remember_25 : decode cX12_remember 25 = .ok (.iinc 2 1, 3) := by decide +kernel
theorem dX12_remember_28 : decode cX12_remember 28 = .ok (.goto (-17), 3) := by decide +kernel
theorem dX12_remember_31 : decode cX12_remember 31 = .ok (.aload_n 0, 1) := by decide +kernel
theorem dX12_remember_32 : decode cX12_remember 32 = .ok (.dup, 1) := by decide +kernel
theorem dX12_remember_33 : decode cX12_remember 33 = .ok (.getfield 21, 3) := by decide +kernel
theorem dX12_remember_36 : decode cX12_remember 36 = .ok (.iconst 1, 1) := by decide +kernel
theorem dX12_remember_37 : decode cX12_remember 37 = .ok (.isub, 1) := by decide +kernel
theorem dX12_remember_38 : decode cX12_remember 38 = .ok (.putfield 21, 3) := by decide +kernel
theorem dX12_remember_41 : decode cX12_remember 41 = .ok (.aload_n 0, 1) := by decide +kernel
theorem dX12_remember_42 : decode cX12_remember 42 = .ok (.dup, 1) := by decide +kernel
theorem dX12_remember_43 : decode cX12_remember 43 = .ok (.getfield 21, 3) := by decide +kernel
theorem dX12_remember_46 : decode cX12_remember 46 = .ok (.iconst 1, 1) := by decide +kernel
theorem dX12_remember_47 : decode cX12_remember 47 = .ok (.iadd, 1) := by decide +kernel
theorem dX12_remember_48 : decode cX12_remember 48 = .ok (.putfield 21, 3) := by decide +kernel
theorem dX12_remember_51 : decode cX12_remember 51 = .ok (.aload_n 0, 1) := by decide +kernel
theorem dX12_remember_52 : decode cX12_remember 52 = .ok (.iload_n 1, 1) := by decide +kernel
theorem dX12_remember_53 : decode cX12_remember 53 = .ok (.aload_n 0, 1) := by decide +kernel
theorem dX12_remember_54 : decode cX12_remember 54 = .ok (.getfield 21, 3) := by decide +kernel
theorem dX12_remember_57 : decode cX12_remember 57 = .ok (.invokevirtual 91, 3) := by decide +kernel
theorem dX12_remember_60 : decode cX12_remember 60 = .ok (.return_, 1) := by decide +kernel
set_option maxRecDepth 20000 in
theorem ggX12_isPredecessor_X12_of : GoodIn wsX12_isPredecessor wsX12_of := goodIn_r _ [5, 6, 7, 8, 9, 10, 11, 12, 13, 14, 15, 16, 17, 18, 19, 20, 21, 22, 23, 24, 25] rfl (by decide +kernel)
set_option maxRecDepth 20000 in
theorem gX12_isPredecessor_X12_of : GoodIn wsX12_isPredecessor (wsV RX12 95 RX12 yX12_of wsX12_of) := goodIn_app (goodIn_of _ (by decide +kernel)) ggX12_isPredecessor_X12_of
theorem dX12_isPredecessor_0 : decode cX12_isPredecessor 0 = .ok (.iconst 0, 1) := by decide +kernel
theorem dX12_isPredecessor_1 : decode cX12_isPredecessor 1 = .ok (.istore_n 3, 1) := by decide +kernel
theorem dX12_isPredecessor_2 : decode cX12_isPredecessor 2 = .ok (.iload_n 3, 1) := by decide +kernel
theorem dX12_isPredecessor_3 : decode cX12_isPredecessor 3 = .ok (.aload_n 0, 1) := by decide +kernel
theorem dX12_isPredecessor_4 : decode cX12_isPredecessor 4 = .ok (.iload_n 2, 1) := by decide +kernel
theorem dX12_isPredecessor_5 : decode cX12_isPredecessor 5 = .ok (.bipush 12, 2) := by decide +kernel
theorem dX12_isPredecessor_7 : decode cX12_isPredecessor 7 = .ok (.invokevirtual 95, 3) := by decide +kernel
theorem dX12_isPredecessor_10 : decode cX12_isPredecessor 10 = .ok (.if_icmp .ge 24, 3) := by decide +kernel
theorem dX12_isPredecessor_13 : decode cX12_isPredecessor 13 = .ok (.aload_n 0, 1) := by decide +kernel
theorem dX12_isPredecessor_14 : decode cX12_isPredecessor 14 = .ok (.iload_n 2, 1) := by decide +kernel
theorem dX12_isPredecessor_15 : decode cX12_isPredecessor 15 = .ok (.bipush 13, 2) := by decide +kernel
theorem dX12_isPredecessor_17 : decode cX12_isPredecessor 17 = .ok (.iload_n 3, 1) := by decide +kernel
theorem dX12_isPredecessor_18 : decode cX12_isPredecessor 18 = .ok (.iadd, 1) := by decide +kernel
theorem dX12_isPredecessor_19 : decode cX12_isPredecessor 19 = .ok (.invokevirtual 95, 3) := by decide +kernel
theorem dX12_isPredecessor_22 : decode cX12_isPredecessor 22 = .ok (.iload_n 1, 1) := by decide +kernel
theorem dX12_isPredecessor_23 : decode cX12_isPredecessor 23 = .ok (.if_icmp .ne 5, 3) := by decide +kernel
theorem dX12_isPredecessor_26 : decode cX12_isPredecessor 26 = .ok (.iconst 1, 1) := by decide +kernel
theorem dX12_isPredecessor_27 : decode cX12_isPredecessor 27 = .ok (.ireturn, 1) := by decide +kernel
theorem dX12_isPredecessor_28 : decode cX12_isPredecessor 28 = .ok (.iinc 3 1, 3) := by decide +kernel
theorem dX12_isPredecessor_31 : decode cX12_isPredecessor 31 = .ok (.goto (-29), 3) := by decide +kernel
theorem dX12_isPredecessor_34 : decode cX12_isPredecessor 34 = .ok (.iconst 0, 1) := by decide +kernel
theorem dX12_isPredecessor_35 : decode cX12_isPredecessor 35 = .ok (.ireturn, 1) := by decide +kernel
set_option maxRecDepth 20000 in
theorem ggX12_successors_X12_isPredecessor : GoodIn wsX12_successors wsX12_isPredecessor := goodIn_r _ [6, 7, 8, 9, 5, 10, 1, 11, 12, 13, 14, 15, 16, 17, 18, 19, 20, 21, 22, 23, 24, 25, 26, 27, 28, 29] rfl (by decide +kernel)
set_option maxRecDepth 20000 in
theorem gX12_successors_X12_isPredecessor : GoodIn wsX12_successors (wsV RX12 99 RX12 yX12_isPredecessor wsX12_isPredecessor) := goodIn_app (goodIn_of _ (by decide +kernel)) ggX12_successors_X12_isPredecessor
theorem dX12_successors_0 : decode cX12_successors 0 = .ok (.iconst 0, 1) := by decide +kernel
theorem dX12_successors_1 : decode cX12_successors 1 = .ok (.istore_n 2, 1) := by decide +kernel
theorem dX12_successors_2 : decode cX12_successors 2 = .ok (.iload_n 1, 1) := by decide +kernel
theorem dX12_successors_3 : decode cX12_successors 3 = .ok (.iconst 1, 1) := by decide +kernel
theorem dX12_successors_4 : decode cX12_successors 4 = .ok (.iadd, 1) := by decide +kernel
theorem dX12_successors_5 : decode cX12_successors 5 = .ok (.istore_n 3, 1) := by decide +kernel
theorem dX12_successors_6 : decode cX12_successors 6 = .ok (.iload_n 3, 1) := by decide +kernel
theorem dX12_successors_7 : decode cX12_successors 7 = .ok (.aload_n 0, 1) := by decide +kernel
theorem dX12_successors_8 : decode cX12_successors 8 = .ok (.getfield 13, 3) := by decide +kernel
theorem dX12_successors_11 : decode cX12_successors 11 = .ok (.bipush 13, 2) := by decide +kernel
theorem dX12_successors_13 : decode cX12_successors 13 = .ok (.iaload, 1) := by decide +kernel
theorem dX12_successors_14 : decode cX12_successors 14 = .ok (.if_icmp .ge 26, 3) := by decide +kernel
theorem dX12_successors_17 : decode cX12_successors 17 = .ok (.iload_n 2, 1) := by decide +kernel
theorem dX12_successors_18 : decode cX12_successors 18 = .ok (.aload_n 0, 1) := by decide +kernel
theorem dX12_successors_19 : decode cX12_successors 19 = .ok (.iload_n 1, 1) := by decide +kernel
theorem dX12_successors_20 : decode cX12_successors 20 = .ok (.iload_n 3, 1) := by decide +kernel
theorem dX12_successors_21 : decode cX12_successors 21 = .ok (.invokevirtual 99, 3) := by decide +kernel
theorem dX12_successors_24 : decode cX12_successors 24 = .ok (.ifCond .eq 7, 3) := by decide +kernel
theorem dX12_successors_27 : decode cX12_successors 27 = .ok (.iconst 1, 1) := by decide +kernel
theorem dX12_successors_28 : decode cX12_successors 28 = .ok (.goto 4, 3) := by decide +kernel
theorem dX12_successors_31 : decode cX12_successors 31 = .ok (.iconst 0, 1) := by decide +kernel
theorem dX12_successors_32 : decode cX12_successors 32 = .ok (.iadd, 1) := by decide +kernel
theorem dX12_successors_33 : decode cX12_successors 33 = .ok (.istore_n 2, 1) := by decide +kernel
theorem dX12_successors_34 : decode cX12_successors 34 = .ok (.iinc 3 1, 3) := by decide +kernel
theorem dX12_successors_37 : decode cX12_successors 37 = .ok (.goto (-31), 3) := by decide +kernel
theorem dX12_successors_40 : decode cX12_successors 40 = .ok (.iload_n 2, 1) := by decide +kernel
theorem dX12_successors_41 : decode cX12_successors 41 = .ok (.ireturn, 1) := by decide +kernel
set_option maxRecDepth 20000 in
theorem ggX12_hasSuccessor_X12_isPredecessor : GoodIn wsX12_hasSuccessor wsX12_isPredecessor := goodIn_r _ [6, 7, 8, 9, 5, 10, 1, 11, 12, 13, 14, 15, 16, 17, 18, 19, 20, 21, 22, 23, 24, 25, 26, 27, 28, 29] rfl (by decide +kernel)
set_option maxRecDepth 20000 in
theorem gX12_hasSuccessor_X12_isPredecessor : GoodIn wsX12_hasSuccessor (wsV RX12 99 RX12 yX12_isPredecessor wsX12_isPredecessor) := goodIn_app (goodIn_of _ (by decide +kernel)) ggX12_hasSuccessor_X12_isPredecessor
set_option maxRecDepth 20000 in
theorem ggX12_hasSuccessor_X12_of : GoodIn wsX12_hasSuccessor wsX12_of := goodIn_r _ [10, 1, 11, 12, 13, 14, 15, 16, 17, 18, 19, 20, 21, 22, 23, 24, 25, 26, 27, 28, 29] rfl (by decide +kernel)
set_option maxRecDepth 20000 in
theorem gX12_hasSuccessor_X12_of : GoodIn wsX12_hasSuccessor (wsV RX12 95 RX12 yX12_of wsX12_of) := goodIn_app (goodIn_of _ (by decide +kernel)) ggX12_hasSuccessor_X12_of
theorem dX12_hasSuccessor_0 : decode cX12_hasSuccessor 0 = .ok (.iload_n 1, 1) := by decide +kernel
theorem dX12_hasSuccessor_1 : decode cX12_hasSuccessor 1 = .ok (.iconst 1, 1) := by decide +kernel
theorem dX12_hasSuccessor_2 : decode cX12_hasSuccessor 2 = .ok (.iadd, 1) := by decide +kernel
theorem dX12_hasSuccessor_3 : decode cX12_hasSuccessor 3 = .ok (.istore 4, 2) := by decide +kernel
theorem dX12_hasSuccessor_5 : decode cX12_hasSuccessor 5 = .ok (.iload 4, 2) := by decide +kernel
theorem dX12_hasSuccessor_7 : decode cX12_hasSuccessor 7 = .ok (.aload_n 0, 1) := by decide +kernel
theorem dX12_hasSuccessor_8 : decode cX12_hasSuccessor 8 = .ok (.getfield 13, 3) := by decide +kernel
theorem dX12_hasSuccessor_11 : decode cX12_hasSuccessor 11 = .ok (.bipush 13, 2) := by decide +kernel
theorem dX12_hasSuccessor_13 : decode cX12_hasSuccessor 13 = .ok (.iaload, 1) := by decide +kernel
theorem dX12_hasSuccessor_14 : decode cX12_hasSuccessor 14 = .ok (.if_icmp .ge 45, 3) := by decide +kernel
theorem dX12_hasSuccessor_17 : decode cX12_hasSuccessor 17 = .ok (.aload_n 0, 1) := by decide +kernel
theorem dX12_hasSuccessor_18 : decode cX12_hasSuccessor 18 = .ok (.iload_n 1, 1) := by decide +kernel
theorem dX12_hasSuccessor_19 : decode cX12_hasSuccessor 19 = .ok (.iload 4, 2) := by decide +kernel
theorem dX12_hasSuccessor_21 : decode cX12_hasSuccessor 21 = .ok (.invokevirtual 99, 3) := by decide +kernel
theorem dX12_hasSuccessor_24 : decode cX12_hasSuccessor 24 = .ok (.ifCond .eq 29, 3) := by decide +kernel
theorem dX12_hasSuccessor_27 : decode cX12_hasSuccessor 27 = .ok (.aload_n 0, 1) := by decide +kernel
theorem dX12_hasSuccessor_28 : decode cX12_hasSuccessor 28 = .ok (.iload 4, 2) := by decide +kernel
theorem dX12_hasSuccessor_30 : decode cX12_hasSuccessor 30 = .ok (.bipush 17, 2) := by decide +kernel
theorem dX12_hasSuccessor_32 : decode cX12_hasSuccessor 32 = .ok (.invokevirtual 95, 3) := by decide +kernel
theorem dX12_hasSuccessor_35 : decode cX12_hasSuccessor 35 = .ok (.iload_n 2, 1) := by decide +kernel
theorem dX12_hasSuccessor_36 : decode cX12_hasSuccessor 36 = .ok (.if_icmp .eq 15, 3) := by decide +kernel
theorem dX12_hasSuccessor_39 : decode cX12_hasSuccessor 39 = .ok (.aload_n 0, 1) := by decide +kernel
theorem dX12_hasSuccessor_40 : decode cX12_hasSuccessor 40 = .ok (.iload 4, 2) := by decide +kernel
theorem dX12_hasSuccessor_42 : decode cX12_hasSuccessor 42 = .ok (.bipush 17, 2) := by decide +kernel
theorem dX12_hasSuccessor_44 : decode cX12_hasSuccessor 44 = .ok (.invokevirtual 95, 3) := by decide +kernel
theorem dX12_hasSuccessor_47 : decode cX12_hasSuccessor 47 = .ok (.iload_n 3, 1) := by decide +kernel
theorem dX12_hasSuccessor_48 : decode cX12_hasSuccessor 48 = .ok (.if_icmp .ne 5, 3) := by decide +kernel
theorem dX12_hasSuccessor_51 : decode cX12_hasSuccessor 51 = .ok (.iconst 1, 1) := by decide +kernel
theorem dX12_hasSuccessor_52 : decode cX12_hasSuccessor 52 = .ok (.ireturn, 1) := by decide +kernel
theorem dX12_hasSuccessor_53 : decode cX12_hasSuccessor 53 = .ok (.iinc 4 1, 3) := by decide +kernel
theorem dX12_hasSuccessor_56 : decode cX12_hasSuccessor 56 = .ok (.goto (-51), 3) := by decide +kernel
theorem dX12_hasSuccessor_59 : decode cX12_hasSuccessor 59 = .ok (.iconst 0, 1) := by decide +kernel
theorem dX12_hasSuccessor_60 : decode cX12_hasSuccessor 60 = .ok (.ireturn, 1) := by decide +kernel
set_option maxRecDepth 20000 in
theorem ggX12_computePaths_X12_isPredecessor : GoodIn wsX12_computePaths wsX12_isPredecessor := goodIn_r _ [7, 8, 9, 10, 6, 11, 1, 12, 13, 14, 15, 16, 17, 18, 19, 20, 21, 22, 23, 24, 25, 26, 27, 28, 29, 30] rfl (by decide +kernel)
set_option maxRecDepth 20000 in
theorem gX12_computePaths_X12_isPredecessor : GoodIn wsX12_computePaths (wsV RX12 99 RX12 yX12_isPredecessor wsX12_isPredecessor) := goodIn_app (goodIn_of _ (by decide +kernel)) ggX12_computePaths_X12_isPredecessor
set_option maxRecDepth 20000 in
theorem ggX12_computePaths_X12_of : GoodIn wsX12_computePaths wsX12_of := goodIn_r _ [11, 1, 12, 13, 14, 15, 16, 17, 18, 19, 20, 21, 22, 23, 24, 25, 26, 27, 28, 29, 30] rfl (by decide +kernel)
set_option maxRecDepth 20000 in
theorem gX12_computePaths_X12_of : GoodIn wsX12_computePaths (wsV RX12 95 RX12 yX12_of wsX12_of) := goodIn_app (goodIn_of _ (by decide +kernel)) ggX12_computePaths_X12_of
theorem dX12_computePaths_0 : decode cX12_computePaths 0 = .ok (.aload_n 0, 1) := by decide +kernel
theorem dX12_computePaths_1 : decode cX12_computePaths 1 = .ok (.getfield 13, 3) := by decide +kernel
theorem dX12_computePaths_4 : decode cX12_computePaths 4 = .ok (.bipush 13, 2) := by decide +kernel
theorem dX12_computePaths_6 : decode cX12_computePaths 6 = .ok (.iaload, 1) := by decide +kernel
theorem dX12_computePaths_7 : decode cX12_computePaths 7 = .ok (.iconst 1, 1) := by decide +kernel
theorem dX12_computePaths_8 : decode cX12_computePaths 8 = .ok (.isub, 1) := by decide +kernel
theorem dX12_computePaths_9 : decode cX12_computePaths 9 = .ok (.istore_n 1, 1) := by decide +kernel
theorem dX12_computePaths_10 : decode cX12_computePaths 10 = .ok (.iload_n 1, 1) := by decide +kernel
theorem dX12_computePaths_11 : decode cX12_computePaths 11 = .ok (.ifCond .lt 73, 3) := by decide +kernel
theorem dX12_computePaths_14 : decode cX12_computePaths 14 = .ok (.iconst 0, 1) := by decide +kernel
theorem dX12_computePaths_15 : decode cX12_computePaths 15 = .ok (.istore_n 2, 1) := by decide +kernel
theorem dX12_computePaths_16 : decode cX12_computePaths 16 = .ok (.iload_n 1, 1) := by decide +kernel
theorem dX12_computePaths_17 : decode cX12_computePaths 17 = .ok (.iconst 1, 1) := by decide +kernel
theorem dX12_computePaths_18 : decode cX12_computePaths 18 = .ok (.iadd, 1) := by decide +kernel
theorem dX12_computePaths_19 : decode cX12_computePaths 19 = .ok (.istore_n 3, 1) := by decide +kernel
theorem dX12_computePaths_20 : decode cX12_computePaths 20 = .ok (.iload_n 3, 1) := by decide +kernel
theorem dX12_computePaths_21 : decode cX12_computePaths 21 = .ok (.aload_n 0, 1) := by decide +kernel
theorem dX12_computePaths_22 : decode cX12_computePaths 22 = .ok (.getfield 13, 3) := by decide +kernel
theorem dX12_computePaths_25 : decode cX12_computePaths 25 = .ok (.bipush 13, 2) := by decide +kernel
theorem dX12_computePaths_27 : decode cX12_computePaths 27 = .ok (.iaload, 1) := by decide +kernel
theorem dX12_computePaths_28 : decode cX12_computePaths 28 = .ok (.if_icmp .ge 35, 3) := by decide +kernel
theorem dX12_computePaths_31 : decode cX12_computePaths 31 = .ok (.aload_n 0, 1) := by decide +kernel
theorem dX12_computePaths_32 : decode cX12_computePaths 32 = .ok (.iload_n 1, 1) := by decide +kernel
theorem dX12_computePaths_33 : decode cX12_computePaths 33 = .ok (.iload_n 3, 1) := by decide +kernel
theorem dX12_computePaths_34 : decode cX12_computePaths 34 = .ok (.invokevirtual 99, 3) := by decide +kernel
theorem dX12_computePaths_37 : decode cX12_computePaths 37 = .ok (.ifCond .eq 20, 3) := by decide +kernel
theorem dX12_computePaths_40 : decode cX12_computePaths 40 = .ok (.aload_n 0, 1) := by decide +kernel
theorem dX12_computePaths_41 : decode cX12_computePaths 41 = .ok (.getfield 42, 3) := by decide +kernel
theorem dX12_computePaths_44 : decode cX12_computePaths 44 = .ok (.iload_n 3, 1) := by decide +kernel
theorem dX12_computePaths_45 : decode cX12_computePaths 45 = .ok (.iaload, 1) := by decide +kernel
theorem dX12_computePaths_46 : decode cX12_computePaths 46 = .ok (.iload_n 2, 1) := by decide +kernel
theorem dX12_computePaths_47 : decode cX12_computePaths 47 = .ok (.if_icmp .le 10, 3) := by decide +kernel
theorem dX12_computePaths_50 : decode cX12_computePaths 50 = .ok (.aload_n 0, 1) := by decide +kernel
theorem dX12_computePaths_51 : decode cX12_computePaths 51 = .ok (.getfield 42, 3) := by decide +kernel
theorem dX12_computePaths_54 : decode cX12_computePaths 54 = .ok (.iload_n 3, 1) := by decide +kernel
theorem dX12_computePaths_55 : decode cX12_computePaths 55 = .ok (.iaload, 1) := by decide +kernel
theorem dX12_computePaths_56 : decode cX12_computePaths 56 = .ok (.istore_n 2, 1) := by decide +kernel
theorem dX12_computePaths_57 : decode cX12_computePaths 57 = .ok (.iinc 3 1, 3) := by decide +kernel
theorem dX12_computePaths_60 : decode cX12_computePaths 60 = .ok (.goto (-40), 3) := by decide +kernel
theorem dX12_computePaths_63 : decode cX12_computePaths 63 = .ok (.aload_n 0, 1) := by decide +kernel
theorem dX12_computePaths_64 : decode cX12_computePaths 64 = .ok (.getfield 42, 3) := by decide +kernel
theorem dX12_computePaths_67 : decode cX12_computePaths 67 = .ok (.iload_n 1, 1) := by decide +kernel
theorem dX12_computePaths_68 : decode cX12_computePaths 68 = .ok (.aload_n 0, 1) := by decide +kernel
theorem dX12_computePaths_69 : decode cX12_computePaths 69 = .ok (.iload_n 1, 1) := by decide +kernel
theorem dX12_computePaths_70 : decode cX12_computePaths 70 = .ok (.bipush 7, 2) := by decide +kernel
theorem dX12_computePaths_72 : decode cX12_computePaths 72 = .ok (.invokevirtual 95, 3) := by decide +kernel
theorem dX12_computePaths_75 : decode cX12_computePaths 75 = .ok (.iload_n 2, 1) := by decide +kernel
theorem dX12_computePaths_76 : decode cX12_computePaths 76 = .ok (.iadd, 1) := by decide +kernel
theorem dX12_computePaths_77 : decode cX12_computePaths 77 = .ok (.iastore, 1) := by decide +kernel
theorem dX12_computePaths_78 : decode cX12_computePaths 78 = .ok (.iinc 1 (-1), 3) := by decide +kernel
theorem dX12_computePaths_81 : decode cX12_computePaths 81 = .ok (.goto (-71), 3) := by decide +kernel
theorem dX12_computePaths_84 : decode cX12_computePaths 84 = .ok (.return_, 1) := by decide +kernel
set_option maxRecDepth 20000 in
theorem ggX12_computeHeads_X12_of : GoodIn wsX12_computeHeads wsX12_of := goodIn_r _ [7, 1, 8, 9, 10, 11, 12, 13, 14, 15, 16, 17, 18, 19, 20, 21, 22, 23, 24, 25, 26] rfl (by decide +kernel)
set_option maxRecDepth 20000 in
theorem gX12_computeHeads_X12_of : GoodIn wsX12_computeHeads (wsV RX12 95 RX12 yX12_of wsX12_of) := goodIn_app (goodIn_of _ (by decide +kernel)) ggX12_computeHeads_X12_of
theorem dX12_computeHeads_0 : decode cX12_computeHeads 0 = .ok (.iconst 0, 1) := by decide +kernel
theorem dX12_computeHeads_1 : decode cX12_computeHeads 1 = .ok (.istore_n 1, 1) := by decide +kernel
theorem dX12_computeHeads_2 : decode cX12_computeHeads 2 = .ok (.iload_n 1, 1) := by decide +kernel
theorem dX12_computeHeads_3 : decode cX12_computeHeads 3 = .ok (.aload_n 0, 1) := by decide +kernel
theorem dX12_computeHeads_4 : decode cX12_computeHeads 4 = .ok (.getfield 13, 3) := by decide +kernel
theorem dX12_computeHeads_7 : decode cX12_computeHeads 7 = .ok (.bipush 13, 2) := by decide +kernel
theorem dX12_computeHeads_9 : decode cX12_computeHeads 9 = .ok (.iaload, 1) := by decide +kernel
theorem dX12_computeHeads_10 : decode cX12_computeHeads 10 = .ok (.if_icmp .ge 88, 3) := by decide +kernel
theorem dX12_computeHeads_13 : decode cX12_computeHeads 13 = .ok (.aload_n 0, 1) := by decide +kernel
theorem dX12_computeHeads_14 : decode cX12_computeHeads 14 = .ok (.getfield 45, 3) := by decide +kernel
theorem dX12_computeHeads_17 : decode cX12_computeHeads 17 = .ok (.iload_n 1, 1) := by decide +kernel
theorem dX12_computeHeads_18 : decode cX12_computeHeads 18 = .ok (.iconst 0, 1) := by decide +kernel
theorem dX12_computeHeads_19 : decode cX12_computeHeads 19 = .ok (.iastore, 1) := by decide +kernel
theorem dX12_computeHeads_20 : decode cX12_computeHeads 20 = .ok (.iconst 0, 1) := by decide +kernel
theorem dX12_computeHeads_21 : decode cX12_computeHeads 21 = .ok (.istore_n 2, 1) := by decide +kernel
theorem dX12_computeHeads_22 : decode cX12_computeHeads 22 = .ok (.iload_n 2, 1) := by decide +kernel
theorem dX12_computeHeads_23 : decode cX12_computeHeads 23 = .ok (.aload_n 0, 1) := by decide +kernel
theorem dX12_computeHeads_24 : decode cX12_computeHeads 24 = .ok (.iload_n 1, 1) := by decide +kernel
theorem dX12_computeHeads_25 : decode cX12_computeHeads 25 = .ok (.bipush 12, 2) := by decide +kernel
theorem dX12_computeHeads_27 : decode cX12_computeHeads 27 = .ok (.invokevirtual 95, 3) := by decide +kernel
theorem dX12_computeHeads_30 : decode cX12_computeHeads 30 = .ok (.if_icmp .ge 62, 3) := by decide +kernel
theorem dX12_computeHeads_33 : decode cX12_computeHeads 33 = .ok (.aload_n 0, 1) := by decide +kernel
theorem dX12_computeHeads_34 : decode cX12_computeHeads 34 = .ok (.iload_n 1, 1) := by decide +kernel
theorem dX12_computeHeads_35 : decode cX12_computeHeads 35 = .ok (.bipush 13, 2) := by decide +kernel
theorem dX12_computeHeads_37 : decode cX12_computeHeads 37 = .ok (.iload_n 2, 1) := by decide +kernel
theorem dX12_computeHeads_38 : decode cX12_computeHeads 38 = .ok (.iadd, 1) := by decide +kernel
theorem dX12_computeHeads_39 : decode cX12_computeHeads 39 = .ok (.invokevirtual 95, 3) := by decide +kernel
theorem dX12_computeHeads_42 : decode cX12_computeHeads 42 = .ok (.istore_n 3, 1) := by decide +kernel
theorem dX12_computeHeads_43 : decode cX12_computeHeads 43 = .ok (.aload_n 0, 1) := by decide +kernel
theorem dX12_computeHeads_44 : decode cX12_computeHeads 44 = .ok (.getfield 45, 3) := by decide +kernel
theorem dX12_computeHeads_47 : decode cX12_computeHeads 47 = .ok (.iload_n 3, 1) := by decide +kernel
theorem dX12_computeHeads_48 : decode cX12_computeHeads 48 = .ok (.iaload, 1) := by decide +kernel
theorem dX12_computeHeads_49 : decode cX12_computeHeads 49 = .ok (.aload_n 0, 1) := by decide +kernel
theorem dX12_computeHeads_50 : decode cX12_computeHeads 50 = .ok (.iload_n 3, 1) := by decide +kernel
theorem dX12_computeHeads_51 : decode cX12_computeHeads 51 = .ok (.bipush 7, 2) := by decide +kernel
theorem dX12_computeHeads_53 : decode cX12_computeHeads 53 = .ok (.invokevirtual 95, 3) := by decide +kernel
theorem dX12_computeHeads_56 : decode cX12_computeHeads 56 = .ok (.iadd, 1) := by decide +kernel
theorem dX12_computeHeads_57 : decode cX12_computeHeads 57 = .ok (.aload_n 0, 1) := by decide +kernel
theorem dX12_computeHeads_58 : decode cX12_computeHeads 58 = .ok (.getfield 45, 3) := by decide +kernel
theorem dX12_computeHeads_61 : decode cX12_computeHeads 61 = .ok (.iload_n 1, 1) := by decide +kernel
theorem dX12_computeHeads_62 : decode cX12_computeHeads 62 = .ok (.iaload, 1) := by decide +kernel
theorem dX12_computeHeads_63 : decode cX12_computeHeads 63 = .ok (.if_icmp .le 23, 3) := by decide +kernel
theorem dX12_computeHeads_66 : decode cX12_computeHeads 66 = .ok (.aload_n 0, 1) := by decide +kernel
theorem dX12_computeHeads_67 : decode cX12_computeHeads 67 = .ok (.getfield 45, 3) := by decide +kernel
theorem dX12_computeHeads_70 : decode cX12_computeHeads 70 = .ok (.iload_n 1, 1) := by decide +kernel
theorem dX12_computeHeads_71 : decode cX12_computeHeads 71 = .ok (.aload_n 0, 1) := by decide +kernel
theorem dX12_computeHeads_72 : decode cX12_computeHeads 72 = .ok (.getfield 45, 3) := by decide +kernel
theorem dX12_computeHeads_75 : decode cX12_computeHeads 75 = .ok (.iload_n 3, 1) := by decide +kernel
theorem dX12_computeHeads_76 : decode cX12_computeHeads 76 = .ok (.iaload, 1) := by decide +kernel
theorem dX12_computeHeads_77 : decode cX12_computeHeads 77 = .ok (.aload_n 0, 1) := by decide +kernel
theorem dX12_computeHeads_78 : decode cX12_computeHeads 78 = .ok (.iload_n 3, 1) := by decide +kernel
theorem dX12_computeHeads_79 : decode cX12_computeHeads 79 = .ok (.bipush 7, 2) := by decide +kernel
theorem dX12_computeHeads_81 : decode cX12_computeHeads 81 = .ok (.invokevirtual 95, 3) := by decide +kernel
theorem dX12_computeHeads_84 : decode cX12_computeHeads 84 = .ok (.iadd, 1) := by decide +kernel
theorem dX12_computeHeads_85 : decode cX12_computeHeads 85 = .ok (.iastore, 1) := by decide +kernel
theorem dX12_computeHeads_86 : decode cX12_computeHeads 86 = .ok (.iinc 2 1, 3) := by decide +kernel
theorem dX12_computeHeads_89 : decode cX12_computeHeads 89 = .ok (.goto (-67), 3) := by decide +kernel
theorem dX12_computeHeads_92 : decode cX12_computeHeads 92 = .ok (.iinc 1 1, 3) := by decide +kernel
theorem dX12_computeHeads_95 : decode cX12_computeHeads 95 = .ok (.goto (-93), 3) := by decide +kernel
theorem dX12_computeHeads_98 : decode cX12_computeHeads 98 = .ok (.return_, 1) := by decide +kernel
theorem dX12_longestPath_0 : decode cX12_longestPath 0 = .ok (.iconst 0, 1) := by decide +kernel
theorem dX12_longestPath_1 : decode cX12_longestPath 1 = .ok (.istore_n 1, 1) := by decide +kernel
theorem dX12_longestPath_2 : decode cX12_longestPath 2 = .ok (.iconst 0, 1) := by decide +kernel
theorem dX12_longestPath_3 : decode cX12_longestPath 3 = .ok (.istore_n 2, 1) := by decide +kernel
theorem dX12_longestPath_4 : decode cX12_longestPath 4 = .ok (.iload_n 2, 1) := by decide +kernel
theorem dX12_longestPath_5 : decode cX12_longestPath 5 = .ok (.aload_n 0, 1) := by decide +kernel
theorem dX12_longestPath_6 : decode cX12_longestPath 6 = .ok (.getfield 13, 3) := by decide +kernel
theorem dX12_longestPath_9 : decode cX12_longestPath 9 = .ok (.bipush 13, 2) := by decide +kernel
theorem dX12_longestPath_11 : decode cX12_longestPath 11 = .ok (.iaload, 1) := by decide +kernel
theorem dX12_longestPath_12 : decode cX12_longestPath 12 = .ok (.if_icmp .ge 30, 3) := by decide +kernel
theorem dX12_longestPath_15 : decode cX12_longestPath 15 = .ok (.aload_n 0, 1) := by decide +kernel
theorem dX12_longestPath_16 : decode cX12_longestPath 16 = .ok (.getfield 42, 3) := by decide +kernel
theorem dX12_longestPath_19 : decode cX12_longestPath 19 = .ok (.iload_n 2, 1) := by decide +kernel
theorem dX12_longestPath_20 : decode cX12_longestPath 20 = .ok (.iaload, 1) := by decide +kernel
theorem dX12_longestPath_21 : decode cX12_longestPath 21 = .ok (.iload_n 1, 1) := by decide +kernel
theorem dX12_longestPath_22 : decode cX12_longestPath 22 = .ok (.if_icmp .le 12, 3) := by decide +kernel
theorem dX12_longestPath_25 : decode cX12_longestPath 25 = .ok (.aload_n 0, 1) := by decide +kernel
theorem dX12_longestPath_26 : decode cX12_longestPath 26 = .ok (.getfield 42, 3) := by decide +kernel
theorem dX12_longestPath_29 : decode cX12_longestPath 29 = .ok (.iload_n 2, 1) := by decide +kernel
theorem dX12_longestPath_30 : decode cX12_longestPath 30 = .ok (.iaload, 1) := by decide +kernel
theorem dX12_longestPath_31 : decode cX12_longestPath 31 = .ok (.goto 4, 3) := by decide +kernel
theorem dX12_longestPath_34 : decode cX12_longestPath 34 = .ok (.iload_n 1, 1) := by decide +kernel
theorem dX12_longestPath_35 : decode cX12_longestPath 35 = .ok (.istore_n 1, 1) := by decide +kernel
theorem dX12_longestPath_36 : decode cX12_longestPath 36 = .ok (.iinc 2 1, 3) := by decide +kernel
theorem dX12_longestPath_39 : decode cX12_longestPath 39 = .ok (.goto (-35), 3) := by decide +kernel
theorem dX12_longestPath_42 : decode cX12_longestPath 42 = .ok (.iload_n 1, 1) := by decide +kernel
theorem dX12_longestPath_43 : decode cX12_longestPath 43 = .ok (.ireturn, 1) := by decide +kernel
set_option maxRecDepth 20000 in
theorem ggX12_isTaken_X12_of : GoodIn wsX12_isTaken wsX12_of := goodIn_r _ [5, 6, 15, 16, 17, 18, 19, 20, 21, 22, 23, 24, 25, 26, 27, 28, 29, 30, 31, 32, 33] rfl (by decide +kernel)
set_option maxRecDepth 20000 in
theorem gX12_isTaken_X12_of : GoodIn wsX12_isTaken (wsV RX12 95 RX12 yX12_of wsX12_of) := goodIn_app (goodIn_of _ (by decide +kernel)) ggX12_isTaken_X12_of
set_option maxRecDepth 20000 in
theorem ggX12_isTaken_X12_hasSuccessor : GoodIn wsX12_isTaken wsX12_hasSuccessor := goodIn_r _ [10, 6, 11, 12, 13, 4, 14, 1, 2, 3, 5, 15, 16, 17, 18, 19, 20, 21, 22, 23, 24, 25, 26, 27, 28, 29, 30, 31, 32, 33] rfl (by decide +kernel)
set_option maxRecDepth 20000 in
theorem gX12_isTaken_X12_hasSuccessor : GoodIn wsX12_isTaken (wsV RX12 103 RX12 yX12_hasSuccessor wsX12_hasSuccessor) := goodIn_app (goodIn_of _ (by decide +kernel)) ggX12_isTaken_X12_hasSuccessor
theorem dX12_isTaken_0 : decode cX12_isTaken 0 = .ok (.aload_n 0, 1) := by decide +kernel
theorem dX12_isTaken_1 : decode cX12_isTaken 1 = .ok (.iload_n 1, 1) := by decide +kernel
theorem dX12_isTaken_2 : decode cX12_isTaken 2 = .ok (.bipush 17, 2) := by decide +kernel
theorem dX12_isTaken_4 : decode cX12_isTaken 4 = .ok (.invokevirtual 95, 3) := by decide +kernel
theorem dX12_isTaken_7 : decode cX12_isTaken 7 = .ok (.iconst 2, 1) := by decide +kernel
theorem dX12_isTaken_8 : decode cX12_isTaken 8 = .ok (.if_icmp .ne 17, 3) := by decide +kernel
theorem dX12_isTaken_11 : decode cX12_isTaken 11 = .ok (.aload_n 0, 1) := by decide +kernel
theorem dX12_isTaken_12 : decode cX12_isTaken 12 = .ok (.iload_n 1, 1) := by decide +kernel
theorem dX12_isTaken_13 : decode cX12_isTaken 13 = .ok (.iconst 1, 1) := by decide +kernel
theorem dX12_isTaken_14 : decode cX12_isTaken 14 = .ok (.iconst 2, 1) := by decide +kernel
theorem dX12_isTaken_15 : decode cX12_isTaken 15 = .ok (.invokevirtual 103, 3) := by decide +kernel
theorem dX12_isTaken_18 : decode cX12_isTaken 18 = .ok (.ifCond .eq 7, 3) := by decide +kernel
theorem dX12_isTaken_21 : decode cX12_isTaken 21 = .ok (.iconst 1, 1) := by decide +kernel
theorem dX12_isTaken_22 : decode cX12_isTaken 22 = .ok (.goto 4, 3) := by decide +kernel
theorem dX12_isTaken_25 : decode cX12_isTaken 25 = .ok (.iconst 0, 1) := by decide +kernel
theorem dX12_isTaken_26 : decode cX12_isTaken 26 = .ok (.ireturn, 1) := by decide +kernel
set_option maxRecDepth 20000 in
theorem ggX12_isReady_X12_of : GoodIn wsX12_isReady wsX12_of := goodIn_r _ [5, 6, 11, 12, 13, 14, 15, 16, 17, 18, 19, 20, 21, 22, 23, 24, 25, 26, 27, 28, 29] rfl (by decide +kernel)
set_option maxRecDepth 20000 in
theorem gX12_isReady_X12_of : GoodIn wsX12_isReady (wsV RX12 95 RX12 yX12_of wsX12_of) := goodIn_app (goodIn_of _ (by decide +kernel)) ggX12_isReady_X12_of
set_option maxRecDepth 20000 in
theorem ggX12_isReady_X12_firstOpen : GoodIn wsX12_isReady wsX12_firstOpen := goodIn_r _ [10, 1, 2, 3, 4, 5, 6, 11, 12, 13, 14, 15, 16, 17, 18, 19, 20, 21, 22, 23, 24, 25, 26, 27, 28, 29] rfl (by decide +kernel)
set_option maxRecDepth 20000 in
theorem gX12_isReady_X12_firstOpen : GoodIn wsX12_isReady (wsV RX12 106 RX12 yX12_firstOpen wsX12_firstOpen) := goodIn_app (goodIn_of _ (by decide +kernel)) ggX12_isReady_X12_firstOpen
theorem dX12_isReady_0 : decode cX12_isReady 0 = .ok (.aload_n 0, 1) := by decide +kernel
theorem dX12_isReady_1 : decode cX12_isReady 1 = .ok (.iload_n 1, 1) := by decide +kernel
theorem dX12_isReady_2 : decode cX12_isReady 2 = .ok (.bipush 17, 2) := by decide +kernel
theorem dX12_isReady_4 : decode cX12_isReady 4 = .ok (.invokevirtual 95, 3) := by decide +kernel
theorem dX12_isReady_7 : decode cX12_isReady 7 = .ok (.iconst 1, 1) := by decide +kernel
theorem dX12_isReady_8 : decode cX12_isReady 8 = .ok (.if_icmp .eq 27, 3) := by decide +kernel
theorem dX12_isReady_11 : decode cX12_isReady 11 = .ok (.aload_n 0, 1) := by decide +kernel
theorem dX12_isReady_12 : decode cX12_isReady 12 = .ok (.iload_n 1, 1) := by decide +kernel
theorem dX12_isReady_13 : decode cX12_isReady 13 = .ok (.bipush 17, 2) := by decide +kernel
theorem dX12_isReady_15 : decode cX12_isReady 15 = .ok (.invokevirtual 95, 3) := by decide +kernel
theorem dX12_isReady_18 : decode cX12_isReady 18 = .ok (.iconst 2, 1) := by decide +kernel
theorem dX12_isReady_19 : decode cX12_isReady 19 = .ok (.if_icmp .eq 16, 3) := by decide +kernel
theorem dX12_isReady_22 : decode cX12_isReady 22 = .ok (.aload_n 0, 1) := by decide +kernel
theorem dX12_isReady_23 : decode cX12_isReady 23 = .ok (.iload_n 1, 1) := by decide +kernel
theorem dX12_isReady_24 : decode cX12_isReady 24 = .ok (.invokevirtual 106, 3) := by decide +kernel
theorem dX12_isReady_27 : decode cX12_isReady 27 = .ok (.iconst (-1), 1) := by decide +kernel
theorem dX12_isReady_28 : decode cX12_isReady 28 = .ok (.if_icmp .ne 7, 3) := by decide +kernel
theorem dX12_isReady_31 : decode cX12_isReady 31 = .ok (.iconst 1, 1) := by decide +kernel
theorem dX12_isReady_32 : decode cX12_isReady 32 = .ok (.goto 4, 3) := by decide +kernel
theorem dX12_isReady_35 : decode cX12_isReady 35 = .ok (.iconst 0, 1) := by decide +kernel
theorem dX12_isReady_36 : decode cX12_isReady 36 = .ok (.ireturn, 1) := by decide +kernel
set_option maxRecDepth 20000 in
theorem ggX12_firstOpen_X12_of : GoodIn wsX12_firstOpen wsX12_of := goodIn_r _ [5, 6, 7, 8, 9, 10, 11, 12, 13, 14, 15, 16, 17, 18, 19, 20, 21, 22, 23, 24, 25] rfl (by decide +kernel)
set_option maxRecDepth 20000 in
theorem gX12_firstOpen_X12_of : GoodIn wsX12_firstOpen (wsV RX12 95 RX12 yX12_of wsX12_of) := goodIn_app (goodIn_of _ (by decide +kernel)) ggX12_firstOpen_X12_of
theorem dX12_firstOpen_0 : decode cX12_firstOpen 0 = .ok (.iconst 0, 1) := by decide +kernel
theorem dX12_firstOpen_1 : decode cX12_firstOpen 1 = .ok (.istore_n 2, 1) := by decide +kernel
theorem dX12_firstOpen_2 : decode cX12_firstOpen 2 = .ok (.iload_n 2, 1) := by decide +kernel
theorem dX12_firstOpen_3 : decode cX12_firstOpen 3 = .ok (.aload_n 0, 1) := by decide +kernel
theorem dX12_firstOpen_4 : decode cX12_firstOpen 4 = .ok (.iload_n 1, 1) := by decide +kernel
theorem dX12_firstOpen_5 : decode cX12_firstOpen 5 = .ok (.bipush 12, 2) := by decide +kernel
theorem dX12_firstOpen_7 : decode cX12_firstOpen 7 = .ok (.invokevirtual 95, 3) := by decide +kernel
theorem dX12_firstOpen_10 : decode cX12_firstOpen 10 = .ok (.if_icmp .ge 38, 3) := by decide +kernel
theorem dX12_firstOpen_13 : decode cX12_firstOpen 13 = .ok (.aload_n 0, 1) := by decide +kernel
theorem dX12_firstOpen_14 : decode cX12_firstOpen 14 = .ok (.aload_n 0, 1) := by decide +kernel
theorem dX12_firstOpen_15 : decode cX12_firstOpen 15 = .ok (.iload_n 1, 1) := by decide +kernel
theorem dX12_firstOpen_16 : decode cX12_firstOpen 16 = .ok (.bipush 13, 2) := by decide +kernel
theorem dX12_firstOpen_18 : decode cX12_firstOpen 18 = .ok (.iload_n 2, 1) := by decide +kernel
theorem dX12_firstOpen_19 : decode cX12_firstOpen 19 = .ok (.iadd, 1) := by decide +kernel
theorem dX12_firstOpen_20 : decode cX12_firstOpen 20 = .ok (.invokevirtual 95, 3) := by decide +kernel
theorem dX12_firstOpen_23 : decode cX12_firstOpen 23 = .ok (.bipush 17, 2) := by decide +kernel
theorem dX12_firstOpen_25 : decode cX12_firstOpen 25 = .ok (.invokevirtual 95, 3) := by decide +kernel
theorem dX12_firstOpen_28 : decode cX12_firstOpen 28 = .ok (.iconst 2, 1) := by decide +kernel
theorem dX12_firstOpen_29 : decode cX12_firstOpen 29 = .ok (.if_icmp .eq 13, 3) := by decide +kernel
theorem dX12_firstOpen_32 : decode cX12_firstOpen 32 = .ok (.aload_n 0, 1) := by decide +kernel
theorem dX12_firstOpen_33 : decode cX12_firstOpen 33 = .ok (.iload_n 1, 1) := by decide +kernel
theorem dX12_firstOpen_34 : decode cX12_firstOpen 34 = .ok (.bipush 13, 2) := by decide +kernel
theorem dX12_firstOpen_36 : decode cX12_firstOpen 36 = .ok (.iload_n 2, 1) := by decide +kernel
theorem dX12_firstOpen_37 : decode cX12_firstOpen 37 = .ok (.iadd, 1) := by decide +kernel
theorem dX12_firstOpen_38 : decode cX12_firstOpen 38 = .ok (.invokevirtual 95, 3) := by decide +kernel
theorem dX12_firstOpen_41 : decode cX12_firstOpen 41 = .ok (.ireturn, 1) := by decide +kernel
theorem dX12_firstOpen_42 : decode cX12_firstOpen 42 = .ok (.iinc 2 1, 3) := by decide +kernel
theorem dX12_firstOpen_45 : decode cX12_firstOpen 45 = .ok (.goto (-43), 3) := by decide +kernel
theorem dX12_firstOpen_48 : decode cX12_firstOpen 48 = .ok (.iconst (-1), 1) := by decide +kernel
theorem dX12_firstOpen_49 : decode cX12_firstOpen 49 = .ok (.ireturn, 1) := by decide +kernel
set_option maxRecDepth 20000 in
theorem ggX12_occupies_X12_of : GoodIn wsX12_occupies wsX12_of := goodIn_r _ [5, 6, 15, 16, 17, 18, 19, 20, 21, 22, 23, 24, 25, 26, 27, 28, 29, 30, 31, 32, 33] rfl (by decide +kernel)
set_option maxRecDepth 20000 in
theorem gX12_occupies_X12_of : GoodIn wsX12_occupies (wsV RX12 95 RX12 yX12_of wsX12_of) := goodIn_app (goodIn_of _ (by decide +kernel)) ggX12_occupies_X12_of
set_option maxRecDepth 20000 in
theorem ggX12_occupies_X12_hasSuccessor : GoodIn wsX12_occupies wsX12_hasSuccessor := goodIn_r _ [10, 6, 11, 12, 13, 4, 14, 1, 2, 3, 5, 15, 16, 17, 18, 19, 20, 21, 22, 23, 24, 25, 26, 27, 28, 29, 30, 31, 32, 33] rfl (by decide +kernel)
set_option maxRecDepth 20000 in
theorem gX12_occupies_X12_hasSuccessor : GoodIn wsX12_occupies (wsV RX12 103 RX12 yX12_hasSuccessor wsX12_hasSuccessor) := goodIn_app (goodIn_of _ (by decide +kernel)) ggX12_occupies_X12_hasSuccessor
theorem dX12_occupies_0 : decode cX12_occupies 0 = .ok (.aload_n 0, 1) := by decide +kernel
theorem dX12_occupies_1 : decode cX12_occupies 1 = .ok (.iload_n 1, 1) := by decide +kernel
theorem dX12_occupies_2 : decode cX12_occupies 2 = .ok (.bipush 9, 2) := by decide +kernel
theorem dX12_occupies_4 : decode cX12_occupies 4 = .ok (.invokevirtual 95, 3) := by decide +kernel
theorem dX12_occupies_7 : decode cX12_occupies 7 = .ok (.iload_n 2, 1) := by decide +kernel
theorem dX12_occupies_8 : decode cX12_occupies 8 = .ok (.if_icmp .eq 5, 3) := by decide +kernel
theorem dX12_occupies_11 : decode cX12_occupies 11 = .ok (.iconst 0, 1) := by decide +kernel
theorem dX12_occupies_12 : decode cX12_occupies 12 = .ok (.ireturn, 1) := by decide +kernel
theorem dX12_occupies_13 : decode cX12_occupies 13 = .ok (.aload_n 0, 1) := by decide +kernel
theorem dX12_occupies_14 : decode cX12_occupies 14 = .ok (.iload_n 1, 1) := by decide +kernel
theorem dX12_occupies_15 : decode cX12_occupies 15 = .ok (.bipush 17, 2) := by decide +kernel
theorem dX12_occupies_17 : decode cX12_occupies 17 = .ok (.invokevirtual 95, 3) := by decide +kernel
theorem dX12_occupies_20 : decode cX12_occupies 20 = .ok (.iconst 1, 1) := by decide +kernel
theorem dX12_occupies_21 : decode cX12_occupies 21 = .ok (.if_icmp .eq 24, 3) := by decide +kernel
theorem dX12_occupies_24 : decode cX12_occupies 24 = .ok (.aload_n 0, 1) := by decide +kernel
theorem dX12_occupies_25 : decode cX12_occupies 25 = .ok (.iload_n 1, 1) := by decide +kernel
theorem dX12_occupies_26 : decode cX12_occupies 26 = .ok (.bipush 17, 2) := by decide +kernel
theorem dX12_occupies_28 : decode cX12_occupies 28 = .ok (.invokevirtual 95, 3) := by decide +kernel
theorem dX12_occupies_31 : decode cX12_occupies 31 = .ok (.iconst 2, 1) := by decide +kernel
theorem dX12_occupies_32 : decode cX12_occupies 32 = .ok (.if_icmp .ne 17, 3) := by decide +kernel
theorem dX12_occupies_35 : decode cX12_occupies 35 = .ok (.aload_n 0, 1) := by decide +kernel
theorem dX12_occupies_36 : decode cX12_occupies 36 = .ok (.iload_n 1, 1) := by decide +kernel
theorem dX12_occupies_37 : decode cX12_occupies 37 = .ok (.iconst 0, 1) := by decide +kernel
theorem dX12_occupies_38 : decode cX12_occupies 38 = .ok (.iconst 3, 1) := by decide +kernel
theorem dX12_occupies_39 : decode cX12_occupies 39 = .ok (.invokevirtual 103, 3) := by decide +kernel
theorem dX12_occupies_42 : decode cX12_occupies 42 = .ok (.ifCond .eq 7, 3) := by decide +kernel
theorem dX12_occupies_45 : decode cX12_occupies 45 = .ok (.iconst 1, 1) := by decide +kernel
theorem dX12_occupies_46 : decode cX12_occupies 46 = .ok (.goto 4, 3) := by decide +kernel
theorem dX12_occupies_49 : decode cX12_occupies 49 = .ok (.iconst 0, 1) := by decide +kernel
theorem dX12_occupies_50 : decode cX12_occupies 50 = .ok (.ireturn, 1) := by decide +kernel
set_option maxRecDepth 20000 in
theorem ggX12_usedPans_X12_occupies : GoodIn wsX12_usedPans wsX12_occupies := goodIn_r _ [6, 7, 8, 9, 5, 10, 1, 11, 12, 13, 14, 15, 16, 17, 18, 19, 20, 21, 22, 23, 24, 25, 26, 27, 28, 29, 30, 31, 32, 33, 34, 35, 36, 37] rfl (by decide +kernel)
set_option maxRecDepth 20000 in
theorem gX12_usedPans_X12_occupies : GoodIn wsX12_usedPans (wsV RX12 110 RX12 yX12_occupies wsX12_occupies) := goodIn_app (goodIn_of _ (by decide +kernel)) ggX12_usedPans_X12_occupies
theorem dX12_usedPans_0 : decode cX12_usedPans 0 = .ok (.iconst 0, 1) := by decide +kernel
theorem dX12_usedPans_1 : decode cX12_usedPans 1 = .ok (.istore_n 2, 1) := by decide +kernel
theorem dX12_usedPans_2 : decode cX12_usedPans 2 = .ok (.iconst 0, 1) := by decide +kernel
theorem dX12_usedPans_3 : decode cX12_usedPans 3 = .ok (.istore_n 3, 1) := by decide +kernel
theorem dX12_usedPans_4 : decode cX12_usedPans 4 = .ok (.iload_n 3, 1) := by decide +kernel
theorem dX12_usedPans_5 : decode cX12_usedPans 5 = .ok (.aload_n 0, 1) := by decide +kernel
theorem dX12_usedPans_6 : decode cX12_usedPans 6 = .ok (.getfield 13, 3) := by decide +kernel
theorem dX12_usedPans_9 : decode cX12_usedPans 9 = .ok (.bipush 13, 2) := by decide +kernel
theorem dX12_usedPans_11 : decode cX12_usedPans 11 = .ok (.iaload, 1) := by decide +kernel
theorem dX12_usedPans_12 : decode cX12_usedPans 12 = .ok (.if_icmp .ge 26, 3) := by decide +kernel
theorem dX12_usedPans_15 : decode cX12_usedPans 15 = .ok (.iload_n 2, 1) := by decide +kernel
theorem dX12_usedPans_16 : decode cX12_usedPans 16 = .ok (.aload_n 0, 1) := by decide +kernel
theorem dX12_usedPans_17 : decode cX12_usedPans 17 = .ok (.iload_n 3, 1) := by decide +kernel
theorem dX12_usedPans_18 : decode cX12_usedPans 18 = .ok (.iload_n 1, 1) := by decide +kernel
theorem dX12_usedPans_19 : decode cX12_usedPans 19 = .ok (.invokevirtual 110, 3) := by decide +kernel
theorem dX12_usedPans_22 : decode cX12_usedPans 22 = .ok (.ifCond .eq 7, 3) := by decide +kernel
theorem dX12_usedPans_25 : decode cX12_usedPans 25 = .ok (.iconst 1, 1) := by decide +kernel
theorem dX12_usedPans_26 : decode cX12_usedPans 26 = .ok (.goto 4, 3) := by decide +kernel
theorem dX12_usedPans_29 : decode cX12_usedPans 29 = .ok (.iconst 0, 1) := by decide +kernel
theorem dX12_usedPans_30 : decode cX12_usedPans 30 = .ok (.iadd, 1) := by decide +kernel
theorem dX12_usedPans_31 : decode cX12_usedPans 31 = .ok (.istore_n 2, 1) := by decide +kernel
theorem dX12_usedPans_32 : decode cX12_usedPans 32 = .ok (.iinc 3 1, 3) := by decide +kernel
theorem dX12_usedPans_35 : decode cX12_usedPans 35 = .ok (.goto (-31), 3) := by decide +kernel
theorem dX12_usedPans_38 : decode cX12_usedPans 38 = .ok (.iload_n 2, 1) := by decide +kernel
theorem dX12_usedPans_39 : decode cX12_usedPans 39 = .ok (.ireturn, 1) := by decide +kernel
set_option maxRecDepth 20000 in
theorem ggX12_hasPan_X12_of : GoodIn wsX12_hasPan wsX12_of := goodIn_r _ [5, 6, 27, 28, 29, 30, 31, 32, 33, 34, 35, 36, 37, 38, 39, 40, 41, 42, 43, 44, 45] rfl (by decide +kernel)
set_option maxRecDepth 20000 in
theorem gX12_hasPan_X12_of : GoodIn wsX12_hasPan (wsV RX12 95 RX12 yX12_of wsX12_of) := goodIn_app (goodIn_of _ (by decide +kernel)) ggX12_hasPan_X12_of
set_option maxRecDepth 20000 in
theorem ggX12_hasPan_X12_usedPans : GoodIn wsX12_hasPan wsX12_usedPans := goodIn_r _ [10, 6, 11, 12, 13, 4, 14, 1, 2, 3, 5, 15, 16, 17, 18, 19, 20, 21, 22, 27, 28, 29, 30, 31, 32, 33, 34, 35, 36, 37, 38, 39, 40, 41, 42, 43, 44, 45] rfl (by decide +kernel)
set_option maxRecDepth 20000 in
theorem gX12_hasPan_X12_usedPans : GoodIn wsX12_hasPan (wsV RX12 113 RX12 yX12_usedPans wsX12_usedPans) := goodIn_app (goodIn_of _ (by decide +kernel)) ggX12_hasPan_X12_usedPans
set_option maxRecDepth 20000 in
theorem ggX12_hasPan_X12_capacity : GoodIn wsX12_hasPan wsX12_capacity := goodIn_r _ [26, 6, 27, 28, 29, 30, 31, 32, 33, 34, 35, 36, 37, 38, 39, 40, 41, 42, 43, 44, 45] rfl (by decide +kernel)
set_option maxRecDepth 20000 in
theorem gX12_hasPan_X12_capacity : GoodIn wsX12_hasPan (wsV RX12 116 RX12 yX12_capacity wsX12_capacity) := goodIn_app (goodIn_of _ (by decide +kernel)) ggX12_hasPan_X12_capacity
theorem dX12_hasPan_0 : decode cX12_hasPan 0 = .ok (.aload_n 0, 1) := by decide +kernel
theorem dX12_hasPan_1 : decode cX12_hasPan 1 = .ok (.iload_n 1, 1) := by decide +kernel
theorem dX12_hasPan_2 : decode cX12_hasPan 2 = .ok (.bipush 9, 2) := by decide +kernel
theorem dX12_hasPan_4 : decode cX12_hasPan 4 = .ok (.invokevirtual 95, 3) := by decide +kernel
theorem dX12_hasPan_7 : decode cX12_hasPan 7 = .ok (.istore_n 2, 1) := by decide +kernel
theorem dX12_hasPan_8 : decode cX12_hasPan 8 = .ok (.iload_n 2, 1) := by decide +kernel
theorem dX12_hasPan_9 : decode cX12_hasPan 9 = .ok (.iconst (-1), 1) := by decide +kernel
theorem dX12_hasPan_10 : decode cX12_hasPan 10 = .ok (.if_icmp .eq 16, 3) := by decide +kernel
theorem dX12_hasPan_13 : decode cX12_hasPan 13 = .ok (.aload_n 0, 1) := by decide +kernel
theorem dX12_hasPan_14 : decode cX12_hasPan 14 = .ok (.iload_n 2, 1) := by decide +kernel
theorem dX12_hasPan_15 : decode cX12_hasPan 15 = .ok (.invokevirtual 113, 3) := by decide +kernel
theorem dX12_hasPan_18 : decode cX12_hasPan 18 = .ok (.aload_n 0, 1) := by decide +kernel
theorem dX12_hasPan_19 : decode cX12_hasPan 19 = .ok (.iload_n 2, 1) := by decide +kernel
theorem dX12_hasPan_20 : decode cX12_hasPan 20 = .ok (.invokevirtual 116, 3) := by decide +kernel
theorem dX12_hasPan_23 : decode cX12_hasPan 23 = .ok (.if_icmp .ge 7, 3) := by decide +kernel
theorem dX12_hasPan_26 : decode cX12_hasPan 26 = .ok (.iconst 1, 1) := by decide +kernel
theorem dX12_hasPan_27 : decode cX12_hasPan 27 = .ok (.goto 4, 3) := by decide +kernel
theorem dX12_hasPan_30 : decode cX12_hasPan 30 = .ok (.iconst 0, 1) := by decide +kernel
theorem dX12_hasPan_31 : decode cX12_hasPan 31 = .ok (.ireturn, 1) := by decide +kernel
set_option maxRecDepth 20000 in
theorem ggX12_isCooked_X12_of : GoodIn wsX12_isCooked wsX12_of := goodIn_r _ [5, 6, 7, 8, 9, 10, 11, 12, 13, 14, 15, 16, 17, 18, 19, 20, 21, 22, 23, 24, 25] rfl (by decide +kernel)
set_option maxRecDepth 20000 in
theorem gX12_isCooked_X12_of : GoodIn wsX12_isCooked (wsV RX12 95 RX12 yX12_of wsX12_of) := goodIn_app (goodIn_of _ (by decide +kernel)) ggX12_isCooked_X12_of
theorem dX12_isCooked_0 : decode cX12_isCooked 0 = .ok (.aload_n 0, 1) := by decide +kernel
theorem dX12_isCooked_1 : decode cX12_isCooked 1 = .ok (.iload_n 1, 1) := by decide +kernel
theorem dX12_isCooked_2 : decode cX12_isCooked 2 = .ok (.bipush 17, 2) := by decide +kernel
theorem dX12_isCooked_4 : decode cX12_isCooked 4 = .ok (.invokevirtual 95, 3) := by decide +kernel
theorem dX12_isCooked_7 : decode cX12_isCooked 7 = .ok (.iconst 1, 1) := by decide +kernel
theorem dX12_isCooked_8 : decode cX12_isCooked 8 = .ok (.if_icmp .ne 17, 3) := by decide +kernel
theorem dX12_isCooked_11 : decode cX12_isCooked 11 = .ok (.aload_n 0, 1) := by decide +kernel
theorem dX12_isCooked_12 : decode cX12_isCooked 12 = .ok (.iload_n 1, 1) := by decide +kernel
theorem dX12_isCooked_13 : decode cX12_isCooked 13 = .ok (.bipush 11, 2) := by decide +kernel
theorem dX12_isCooked_15 : decode cX12_isCooked 15 = .ok (.invokevirtual 95, 3) := by decide +kernel
theorem dX12_isCooked_18 : decode cX12_isCooked 18 = .ok (.ifCond .ne 7, 3) := by decide +kernel
theorem dX12_isCooked_21 : decode cX12_isCooked 21 = .ok (.iconst 1, 1) := by decide +kernel
theorem dX12_isCooked_22 : decode cX12_isCooked 22 = .ok (.goto 4, 3) := by decide +kernel
theorem dX12_isCooked_25 : decode cX12_isCooked 25 = .ok (.iconst 0, 1) := by decide +kernel
theorem dX12_isCooked_26 : decode cX12_isCooked 26 = .ok (.ireturn, 1) := by decide +kernel
set_option maxRecDepth 20000 in
theorem ggX12_hasCook_X12_isCooked : GoodIn wsX12_hasCook wsX12_isCooked := goodIn_r _ [6, 7, 8, 9, 5, 10, 1, 11, 12, 13, 14, 15, 16, 17, 18, 19, 20, 21, 22, 23, 24, 25, 26, 27, 28, 29] rfl (by decide +kernel)
set_option maxRecDepth 20000 in
theorem gX12_hasCook_X12_isCooked : GoodIn wsX12_hasCook (wsV RX12 119 RX12 yX12_isCooked wsX12_isCooked) := goodIn_app (goodIn_of _ (by decide +kernel)) ggX12_hasCook_X12_isCooked
set_option maxRecDepth 20000 in
theorem ggX12_hasCook_X12_of : GoodIn wsX12_hasCook wsX12_of := goodIn_r _ [10, 1, 11, 12, 13, 14, 15, 16, 17, 18, 19, 20, 21, 22, 23, 24, 25, 26, 27, 28, 29] rfl (by decide +kernel)
set_option maxRecDepth 20000 in
theorem gX12_hasCook_X12_of : GoodIn wsX12_hasCook (wsV RX12 95 RX12 yX12_of wsX12_of) := goodIn_app (goodIn_of _ (by decide +kernel)) ggX12_hasCook_X12_of
theorem dX12_hasCook_0 : decode cX12_hasCook 0 = .ok (.iconst 0, 1) := by decide +kernel
theorem dX12_hasCook_1 : decode cX12_hasCook 1 = .ok (.istore_n 2, 1) := by decide +kernel
theorem dX12_hasCook_2 : decode cX12_hasCook 2 = .ok (.iconst 0, 1) := by decide +kernel
theorem dX12_hasCook_3 : decode cX12_hasCook 3 = .ok (.istore_n 3, 1) := by decide +kernel
theorem dX12_hasCook_4 : decode cX12_hasCook 4 = .ok (.iload_n 3, 1) := by decide +kernel
theorem dX12_hasCook_5 : decode cX12_hasCook 5 = .ok (.aload_n 0, 1) := by decide +kernel
theorem dX12_hasCook_6 : decode cX12_hasCook 6 = .ok (.getfield 13, 3) := by decide +kernel
theorem dX12_hasCook_9 : decode cX12_hasCook 9 = .ok (.bipush 13, 2) := by decide +kernel
theorem dX12_hasCook_11 : decode cX12_hasCook 11 = .ok (.iaload, 1) := by decide +kernel
theorem dX12_hasCook_12 : decode cX12_hasCook 12 = .ok (.if_icmp .ge 25, 3) := by decide +kernel
theorem dX12_hasCook_15 : decode cX12_hasCook 15 = .ok (.iload_n 2, 1) := by decide +kernel
theorem dX12_hasCook_16 : decode cX12_hasCook 16 = .ok (.aload_n 0, 1) := by decide +kernel
theorem dX12_hasCook_17 : decode cX12_hasCook 17 = .ok (.iload_n 3, 1) := by decide +kernel
theorem dX12_hasCook_18 : decode cX12_hasCook 18 = .ok (.invokevirtual 119, 3) := by decide +kernel
theorem dX12_hasCook_21 : decode cX12_hasCook 21 = .ok (.ifCond .eq 7, 3) := by decide +kernel
theorem dX12_hasCook_24 : decode cX12_hasCook 24 = .ok (.iconst 1, 1) := by decide +kernel
theorem dX12_hasCook_25 : decode cX12_hasCook 25 = .ok (.goto 4, 3) := by decide +kernel
theorem dX12_hasCook_28 : decode cX12_hasCook 28 = .ok (.iconst 0, 1) := by decide +kernel
theorem dX12_hasCook_29 : decode cX12_hasCook 29 = .ok (.iadd, 1) := by decide +kernel
theorem dX12_hasCook_30 : decode cX12_hasCook 30 = .ok (.istore_n 2, 1) := by decide +kernel
theorem dX12_hasCook_31 : decode cX12_hasCook 31 = .ok (.iinc 3 1, 3) := by decide +kernel
theorem dX12_hasCook_34 : decode cX12_hasCook 34 = .ok (.goto (-30), 3) := by decide +kernel
theorem dX12_hasCook_37 : decode cX12_hasCook 37 = .ok (.aload_n 0, 1) := by decide +kernel
theorem dX12_hasCook_38 : decode cX12_hasCook 38 = .ok (.iload_n 1, 1) := by decide +kernel
theorem dX12_hasCook_39 : decode cX12_hasCook 39 = .ok (.bipush 11, 2) := by decide +kernel
theorem dX12_hasCook_41 : decode cX12_hasCook 41 = .ok (.invokevirtual 95, 3) := by decide +kernel
theorem dX12_hasCook_44 : decode cX12_hasCook 44 = .ok (.iconst 1, 1) := by decide +kernel
theorem dX12_hasCook_45 : decode cX12_hasCook 45 = .ok (.if_icmp .eq 13, 3) := by decide +kernel
theorem dX12_hasCook_48 : decode cX12_hasCook 48 = .ok (.iload_n 2, 1) := by decide +kernel
theorem dX12_hasCook_49 : decode cX12_hasCook 49 = .ok (.aload_n 0, 1) := by decide +kernel
theorem dX12_hasCook_50 : decode cX12_hasCook 50 = .ok (.getfield 13, 3) := by decide +kernel
theorem dX12_hasCook_53 : decode cX12_hasCook 53 = .ok (.iconst 0, 1) := by decide +kernel
theorem dX12_hasCook_54 : decode cX12_hasCook 54 = .ok (.iaload, 1) := by decide +kernel
theorem dX12_hasCook_55 : decode cX12_hasCook 55 = .ok (.if_icmp .ge 7, 3) := by decide +kernel
theorem dX12_hasCook_58 : decode cX12_hasCook 58 = .ok (.iconst 1, 1) := by decide +kernel
theorem dX12_hasCook_59 : decode cX12_hasCook 59 = .ok (.goto 4, 3) := by decide +kernel
theorem dX12_hasCook_62 : decode cX12_hasCook 62 = .ok (.iconst 0, 1) := by decide +kernel
theorem dX12_hasCook_63 : decode cX12_hasCook 63 = .ok (.ireturn, 1) := by decide +kernel
set_option maxRecDepth 20000 in
theorem ggX12_withStatus_X12_of : GoodIn wsX12_withStatus wsX12_of := goodIn_r _ [6, 1, 7, 8, 9, 10, 11, 12, 13, 14, 15, 16, 17, 18, 19, 20, 21, 22, 23, 24, 25] rfl (by decide +kernel)
set_option maxRecDepth 20000 in
theorem gX12_withStatus_X12_of : GoodIn wsX12_withStatus (wsV RX12 95 RX12 yX12_of wsX12_of) := goodIn_app (goodIn_of _ (by decide +kernel)) ggX12_withStatus_X12_of
theorem dX12_withStatus_0 : decode cX12_withStatus 0 = .ok (.iconst 0, 1) := by decide +kernel
theorem dX12_withStatus_1 : decode cX12_withStatus 1 = .ok (.istore_n 2, 1) := by decide +kernel
theorem dX12_withStatus_2 : decode cX12_withStatus 2 = .ok (.iconst 0, 1) := by decide +kernel
theorem dX12_withStatus_3 : decode cX12_withStatus 3 = .ok (.istore_n 3, 1) := by decide +kernel
theorem dX12_withStatus_4 : decode cX12_withStatus 4 = .ok (.iload_n 3, 1) := by decide +kernel
theorem dX12_withStatus_5 : decode cX12_withStatus 5 = .ok (.aload_n 0, 1) := by decide +kernel
theorem dX12_withStatus_6 : decode cX12_withStatus 6 = .ok (.getfield 13, 3) := by decide +kernel
theorem dX12_withStatus_9 : decode cX12_withStatus 9 = .ok (.bipush 13, 2) := by decide +kernel
theorem dX12_withStatus_11 : decode cX12_withStatus 11 = .ok (.iaload, 1) := by decide +kernel
theorem dX12_withStatus_12 : decode cX12_withStatus 12 = .ok (.if_icmp .ge 28, 3) := by decide +kernel
theorem dX12_withStatus_15 : decode cX12_withStatus 15 = .ok (.iload_n 2, 1) := by decide +kernel
theorem dX12_withStatus_16 : decode cX12_withStatus 16 = .ok (.aload_n 0, 1) := by decide +kernel
theorem dX12_withStatus_17 : decode cX12_withStatus 17 = .ok (.iload_n 3, 1) := by decide +kernel
theorem dX12_withStatus_18 : decode cX12_withStatus 18 = .ok (.bipush 17, 2) := by decide +kernel
theorem dX12_withStatus_20 : decode cX12_withStatus 20 = .ok (.invokevirtual 95, 3) := by decide +kernel
theorem dX12_withStatus_23 : decode cX12_withStatus 23 = .ok (.iload_n 1, 1) := by decide +kernel
theorem dX12_withStatus_24 : decode cX12_withStatus 24 = .ok (.if_icmp .ne 7, 3) := by decide +kernel
theorem dX12_withStatus_27 : decode cX12_withStatus 27 = .ok (.iconst 1, 1) := by decide +kernel
theorem dX12_withStatus_28 : decode cX12_withStatus 28 = .ok (.goto 4, 3) := by decide +kernel
theorem dX12_withStatus_31 : decode cX12_withStatus 31 = .ok (.iconst 0, 1) := by decide +kernel
theorem dX12_withStatus_32 : decode cX12_withStatus 32 = .ok (.iadd, 1) := by decide +kernel
theorem dX12_withStatus_33 : decode cX12_withStatus 33 = .ok (.istore_n 2, 1) := by decide +kernel
theorem dX12_withStatus_34 : decode cX12_withStatus 34 = .ok (.iinc 3 1, 3) := by decide +kernel
theorem dX12_withStatus_37 : decode cX12_withStatus 37 = .ok (.goto (-33), 3) := by decide +kernel
theorem dX12_withStatus_40 : decode cX12_withStatus 40 = .ok (.iload_n 2, 1) := by decide +kernel
theorem dX12_withStatus_41 : decode cX12_withStatus 41 = .ok (.ireturn, 1) := by decide +kernel
set_option maxRecDepth 20000 in
theorem ggX12_isFinished_X12_withStatus : GoodIn wsX12_isFinished wsX12_withStatus := goodIn_r _ [6, 1, 7, 8, 9, 5, 10, 11, 12, 13, 14, 15, 16, 17, 18, 19, 20, 21, 22, 23, 24, 25, 26, 27, 28, 29] rfl (by decide +kernel)
set_option maxRecDepth 20000 in
theorem gX12_isFinished_X12_withStatus : GoodIn wsX12_isFinished (wsV RX12 123 RX12 yX12_withStatus wsX12_withStatus) := goodIn_app (goodIn_of _ (by decide +kernel)) ggX12_isFinished_X12_withStatus
theorem dX12_isFinished_0 : decode cX12_isFinished 0 = .ok (.aload_n 0, 1) := by decide +kernel
theorem dX12_isFinished_1 : decode cX12_isFinished 1 = .ok (.iconst 2, 1) := by decide +kernel
theorem dX12_isFinished_2 : decode cX12_isFinished 2 = .ok (.invokevirtual 123, 3) := by decide +kernel
theorem dX12_isFinished_5 : decode cX12_isFinished 5 = .ok (.aload_n 0, 1) := by decide +kernel
theorem dX12_isFinished_6 : decode cX12_isFinished 6 = .ok (.getfield 13, 3) := by decide +kernel
theorem dX12_isFinished_9 : decode cX12_isFinished 9 = .ok (.bipush 13, 2) := by decide +kernel
theorem dX12_isFinished_11 : decode cX12_isFinished 11 = .ok (.iaload, 1) := by decide +kernel
theorem dX12_isFinished_12 : decode cX12_isFinished 12 = .ok (.if_icmp .ne 7, 3) := by decide +kernel
theorem dX12_isFinished_15 : decode cX12_isFinished 15 = .ok (.iconst 1, 1) := by decide +kernel
theorem dX12_isFinished_16 : decode cX12_isFinished 16 = .ok (.goto 4, 3) := by decide +kernel
theorem dX12_isFinished_19 : decode cX12_isFinished 19 = .ok (.iconst 0, 1) := by decide +kernel
theorem dX12_isFinished_20 : decode cX12_isFinished 20 = .ok (.ireturn, 1) := by decide +kernel
set_option maxRecDepth 20000 in
theorem ggX12_work_X12_set : GoodIn wsX12_work wsX12_set := goodIn_r _ [6, 1, 11, 12, 13, 14, 15, 16, 17, 18, 19, 20, 21, 22, 23, 24, 25, 26, 27, 28, 29] rfl (by decide +kernel)
set_option maxRecDepth 20000 in
theorem gX12_work_X12_set : GoodIn wsX12_work (wsV RX12 126 RX12 yX12_set wsX12_set) := goodIn_app (goodIn_of _ (by decide +kernel)) ggX12_work_X12_set
set_option maxRecDepth 20000 in
theorem ggX12_work_X12_of : GoodIn wsX12_work wsX12_of := goodIn_r _ [10, 1, 11, 12, 13, 14, 15, 16, 17, 18, 19, 20, 21, 22, 23, 24, 25, 26, 27, 28, 29] rfl (by decide +kernel)
set_option maxRecDepth 20000 in
theorem gX12_work_X12_of : GoodIn wsX12_work (wsV RX12 95 RX12 yX12_of wsX12_of) := goodIn_app (goodIn_of _ (by decide +kernel)) ggX12_work_X12_of
theorem dX12_work_0 : decode cX12_work 0 = .ok (.aload_n 0, 1) := by decide +kernel
theorem dX12_work_1 : decode cX12_work 1 = .ok (.iload_n 1, 1) := by decide +kernel
theorem dX12_work_2 : decode cX12_work 2 = .ok (.bipush 23, 2) := by decide +kernel
theorem dX12_work_4 : decode cX12_work 4 = .ok (.iconst 0, 1) := by decide +kernel
theorem dX12_work_5 : decode cX12_work 5 = .ok (.invokevirtual 126, 3) := by decide +kernel
theorem dX12_work_8 : decode cX12_work 8 = .ok (.aload_n 0, 1) := by decide +kernel
theorem dX12_work_9 : decode cX12_work 9 = .ok (.iload_n 1, 1) := by decide +kernel
theorem dX12_work_10 : decode cX12_work 10 = .ok (.bipush 17, 2) := by decide +kernel
theorem dX12_work_12 : decode cX12_work 12 = .ok (.invokevirtual 95, 3) := by decide +kernel
theorem dX12_work_15 : decode cX12_work 15 = .ok (.iconst 1, 1) := by decide +kernel
theorem dX12_work_16 : decode cX12_work 16 = .ok (.if_icmp .eq 4, 3) := by decide +kernel
theorem dX12_work_19 : decode cX12_work 19 = .ok (.return_, 1) := by decide +kernel
theorem dX12_work_20 : decode cX12_work 20 = .ok (.aload_n 0, 1) := by decide +kernel
theorem dX12_work_21 : decode cX12_work 21 = .ok (.getfield 13, 3) := by decide +kernel
theorem dX12_work_24 : decode cX12_work 24 = .ok (.bipush 10, 2) := by decide +kernel
theorem dX12_work_26 : decode cX12_work 26 = .ok (.dup2, 1) := by decide +kernel
theorem dX12_work_27 : decode cX12_work 27 = .ok (.iaload, 1) := by decide +kernel
theorem dX12_work_28 : decode cX12_work 28 = .ok (.iconst 1, 1) := by decide +kernel
theorem dX12_work_29 : decode cX12_work 29 = .ok (.aload_n 0, 1) := by decide +kernel
theorem dX12_work_30 : decode cX12_work 30 = .ok (.iload_n 1, 1) := by decide +kernel
theorem dX12_work_31 : decode cX12_work 31 = .ok (.bipush 11, 2) := by decide +kernel
theorem dX12_work_33 : decode cX12_work 33 = .ok (.invokevirtual 95, 3) := by decide +kernel
theorem dX12_work_36 : decode cX12_work 36 = .ok (.isub, 1) := by decide +kernel
theorem dX12_work_37 : decode cX12_work 37 = .ok (.iadd, 1) := by decide +kernel
theorem dX12_work_38 : decode cX12_work 38 = .ok (.iastore, 1) := by decide +kernel
theorem dX12_work_39 : decode cX12_work 39 = .ok (.aload_n 0, 1) := by decide +kernel
theorem dX12_work_40 : decode cX12_work 40 = .ok (.iload_n 1, 1) := by decide +kernel
theorem dX12_work_41 : decode cX12_work 41 = .ok (.bipush 18, 2) := by decide +kernel
theorem dX12_work_43 : decode cX12_work 43 = .ok (.aload_n 0, 1) := by decide +kernel
theorem dX12_work_44 : decode cX12_work 44 = .ok (.iload_n 1, 1) := by decide +kernel
theorem dX12_work_45 : decode cX12_work 45 = .ok (.bipush 18, 2) := by decide +kernel
theorem dX12_work_47 : decode cX12_work 47 = .ok (.invokevirtual 95, 3) := by decide +kernel
theorem dX12_work_50 : decode cX12_work 50 = .ok (.iconst 1, 1) := by decide +kernel
theorem dX12_work_51 : decode cX12_work 51 = .ok (.isub, 1) := by decide +kernel
theorem dX12_work_52 : decode cX12_work 52 = .ok (.invokevirtual 126, 3) := by decide +kernel
theorem dX12_work_55 : decode cX12_work 55 = .ok (.aload_n 0, 1) := by decide +kernel
theorem dX12_work_56 : decode cX12_work 56 = .ok (.iload_n 1, 1) := by decide +kernel
theorem dX12_work_57 : decode cX12_work 57 = .ok (.bipush 18, 2) := by decide +kernel
theorem dX12_work_59 : decode cX12_work 59 = .ok (.invokevirtual 95, 3) := by decide +kernel
theorem dX12_work_62 : decode cX12_work 62 = .ok (.ifCond .le 4, 3) := by decide +kernel
theorem dX12_work_65 : decode cX12_work 65 = .ok (.return_, 1) := by decide +kernel
theorem dX12_work_66 : decode cX12_work 66 = .ok (.aload_n 0, 1) := by decide +kernel
theorem dX12_work_67 : decode cX12_work 67 = .ok (.iload_n 1, 1) := by decide +kernel
theorem dX12_work_68 : decode cX12_work 68 = .ok (.bipush 17, 2) := by decide +kernel
theorem dX12_work_70 : decode cX12_work 70 = .ok (.iconst 2, 1) := by decide +kernel
theorem dX12_work_71 : decode cX12_work 71 = .ok (.invokevirtual 126, 3) := by decide +kernel
theorem dX12_work_74 : decode cX12_work 74 = .ok (.aload_n 0, 1) := by decide +kernel
theorem dX12_work_75 : decode cX12_work 75 = .ok (.iload_n 1, 1) := by decide +kernel
theorem dX12_work_76 : decode cX12_work 76 = .ok (.bipush 19, 2) := by decide +kernel
theorem dX12_work_78 : decode cX12_work 78 = .ok (.iconst 0, 1) := by decide +kernel
theorem dX12_work_79 : decode cX12_work 79 = .ok (.invokevirtual 126, 3) := by decide +kernel
theorem dX12_work_82 : decode cX12_work 82 = .ok (.aload_n 0, 1) := by decide +kernel
theorem dX12_work_83 : decode cX12_work 83 = .ok (.iload_n 1, 1) := by decide +kernel
theorem dX12_work_84 : decode cX12_work 84 = .ok (.bipush 21, 2) := by decide +kernel
theorem dX12_work_86 : decode cX12_work 86 = .ok (.iconst 1, 1) := by decide +kernel
theorem dX12_work_87 : decode cX12_work 87 = .ok (.invokevirtual 126, 3) := by decide +kernel
theorem dX12_work_90 : decode cX12_work 90 = .ok (.aload_n 0, 1) := by decide +kernel
theorem dX12_work_91 : decode cX12_work 91 = .ok (.iload_n 1, 1) := by decide +kernel
theorem dX12_work_92 : decode cX12_work 92 = .ok (.bipush 23, 2) := by decide +kernel
theorem dX12_work_94 : decode cX12_work 94 = .ok (.iconst 1, 1) := by decide +kernel
theorem dX12_work_95 : decode cX12_work 95 = .ok (.invokevirtual 126, 3) := by decide +kernel
theorem dX12_work_98 : decode cX12_work 98 = .ok (.aload_n 0, 1) := by decide +kernel
theorem dX12_work_99 : decode cX12_work 99 = .ok (.getfield 13, 3) := by decide +kernel
theorem dX12_work_102 : decode cX12_work 102 = .ok (.bipush 8, 2) := by decide +kernel
theorem dX12_work_104 : decode cX12_work 104 = .ok (.dup2, 1) := by decide +kernel
theorem dX12_work_105 : decode cX12_work 105 = .ok (.iaload, 1) := by decide +kernel
theorem dX12_work_106 : decode cX12_work 106 = .ok (.iconst 1, 1) := by decide +kernel
theorem dX12_work_107 : decode cX12_work 107 = .ok (.iadd, 1) := by decide +kernel
theorem dX12_work_108 : decode cX12_work 108 = .ok (.iastore, 1) := by decide +kernel
theorem dX12_work_109 : decode cX12_work 109 = .ok (.return_, 1) := by decide +kernel
set_option maxRecDepth 20000 in
theorem ggX12_cool_X12_of : GoodIn wsX12_cool wsX12_of := goodIn_r _ [6, 1, 23, 24, 25, 26, 27, 28, 29, 30, 31, 32, 33, 34, 35, 36, 37, 38, 39, 40, 41] rfl (by decide +kernel)
set_option maxRecDepth 20000 in
theorem gX12_cool_X12_of : GoodIn wsX12_cool (wsV RX12 95 RX12 yX12_of wsX12_of) := goodIn_app (goodIn_of _ (by decide +kernel)) ggX12_cool_X12_of
set_option maxRecDepth 20000 in
theorem ggX12_cool_X12_isTaken : GoodIn wsX12_cool wsX12_isTaken := goodIn_r _ [10, 2, 3, 4, 5, 6, 1, 11, 12, 13, 14, 15, 16, 17, 18, 23, 24, 25, 26, 27, 28, 29, 30, 31, 32, 33, 34, 35, 36, 37, 38, 39, 40, 41] rfl (by decide +kernel)
set_option maxRecDepth 20000 in
theorem gX12_cool_X12_isTaken : GoodIn wsX12_cool (wsV RX12 130 RX12 yX12_isTaken wsX12_isTaken) := goodIn_app (goodIn_of _ (by decide +kernel)) ggX12_cool_X12_isTaken
set_option maxRecDepth 20000 in
theorem ggX12_cool_X12_set : GoodIn wsX12_cool wsX12_set := goodIn_r _ [22, 1, 23, 24, 25, 26, 27, 28, 29, 30, 31, 32, 33, 34, 35, 36, 37, 38, 39, 40, 41] rfl (by decide +kernel)
set_option maxRecDepth 20000 in
theorem gX12_cool_X12_set : GoodIn wsX12_cool (wsV RX12 126 RX12 yX12_set wsX12_set) := goodIn_app (goodIn_of _ (by decide +kernel)) ggX12_cool_X12_set
theorem dX12_cool_0 : decode cX12_cool 0 = .ok (.aload_n 0, 1) := by decide +kernel
theorem dX12_cool_1 : decode cX12_cool 1 = .ok (.iload_n 1, 1) := by decide +kernel
theorem dX12_cool_2 : decode cX12_cool 2 = .ok (.bipush 10, 2) := by decide +kernel
theorem dX12_cool_4 : decode cX12_cool 4 = .ok (.invokevirtual 95, 3) := by decide +kernel
theorem dX12_cool_7 : decode cX12_cool 7 = .ok (.ifCond .eq 33, 3) := by decide +kernel
theorem dX12_cool_10 : decode cX12_cool 10 = .ok (.aload_n 0, 1) := by decide +kernel
theorem dX12_cool_11 : decode cX12_cool 11 = .ok (.iload_n 1, 1) := by decide +kernel
theorem dX12_cool_12 : decode cX12_cool 12 = .ok (.bipush 17, 2) := by decide +kernel
theorem dX12_cool_14 : decode cX12_cool 14 = .ok (.invokevirtual 95, 3) := by decide +kernel
theorem dX12_cool_17 : decode cX12_cool 17 = .ok (.iconst 2, 1) := by decide +kernel
theorem dX12_cool_18 : decode cX12_cool 18 = .ok (.if_icmp .ne 22, 3) := by decide +kernel
theorem dX12_cool_21 : decode cX12_cool 21 = .ok (.aload_n 0, 1) := by decide +kernel
theorem dX12_cool_22 : decode cX12_cool 22 = .ok (.iload_n 1, 1) := by decide +kernel
theorem dX12_cool_23 : decode cX12_cool 23 = .ok (.bipush 23, 2) := by decide +kernel
theorem dX12_cool_25 : decode cX12_cool 25 = .ok (.invokevirtual 95, 3) := by decide +kernel
theorem dX12_cool_28 : decode cX12_cool 28 = .ok (.iconst 1, 1) := by decide +kernel
theorem dX12_cool_29 : decode cX12_cool 29 = .ok (.if_icmp .eq 11, 3) := by decide +kernel
theorem dX12_cool_32 : decode cX12_cool 32 = .ok (.aload_n 0, 1) := by decide +kernel
theorem dX12_cool_33 : decode cX12_cool 33 = .ok (.iload_n 1, 1) := by decide +kernel
theorem dX12_cool_34 : decode cX12_cool 34 = .ok (.invokevirtual 130, 3) := by decide +kernel
theorem dX12_cool_37 : decode cX12_cool 37 = .ok (.ifCond .eq 4, 3) := by decide +kernel
theorem dX12_cool_40 : decode cX12_cool 40 = .ok (.return_, 1) := by decide +kernel
theorem dX12_cool_41 : decode cX12_cool 41 = .ok (.aload_n 0, 1) := by decide +kernel
theorem dX12_cool_42 : decode cX12_cool 42 = .ok (.iload_n 1, 1) := by decide +kernel
theorem dX12_cool_43 : decode cX12_cool 43 = .ok (.bipush 19, 2) := by decide +kernel
theorem dX12_cool_45 : decode cX12_cool 45 = .ok (.aload_n 0, 1) := by decide +kernel
theorem dX12_cool_46 : decode cX12_cool 46 = .ok (.iload_n 1, 1) := by decide +kernel
theorem dX12_cool_47 : decode cX12_cool 47 = .ok (.bipush 19, 2) := by decide +kernel
theorem dX12_cool_49 : decode cX12_cool 49 = .ok (.invokevirtual 95, 3) := by decide +kernel
theorem dX12_cool_52 : decode cX12_cool 52 = .ok (.iconst 1, 1) := by decide +kernel
theorem dX12_cool_53 : decode cX12_cool 53 = .ok (.iadd, 1) := by decide +kernel
theorem dX12_cool_54 : decode cX12_cool 54 = .ok (.invokevirtual 126, 3) := by decide +kernel
theorem dX12_cool_57 : decode cX12_cool 57 = .ok (.aload_n 0, 1) := by decide +kernel
theorem dX12_cool_58 : decode cX12_cool 58 = .ok (.iload_n 1, 1) := by decide +kernel
theorem dX12_cool_59 : decode cX12_cool 59 = .ok (.bipush 19, 2) := by decide +kernel
theorem dX12_cool_61 : decode cX12_cool 61 = .ok (.invokevirtual 95, 3) := by decide +kernel
theorem dX12_cool_64 : decode cX12_cool 64 = .ok (.aload_n 0, 1) := by decide +kernel
theorem dX12_cool_65 : decode cX12_cool 65 = .ok (.getfield 13, 3) := by decide +kernel
theorem dX12_cool_68 : decode cX12_cool 68 = .ok (.iconst 1, 1) := by decide +kernel
theorem dX12_cool_69 : decode cX12_cool 69 = .ok (.iaload, 1) := by decide +kernel
theorem dX12_cool_70 : decode cX12_cool 70 = .ok (.if_icmp .gt 4, 3) := by decide +kernel
theorem dX12_cool_73 : decode cX12_cool 73 = .ok (.return_, 1) := by decide +kernel
theorem dX12_cool_74 : decode cX12_cool 74 = .ok (.aload_n 0, 1) := by decide +kernel
theorem dX12_cool_75 : decode cX12_cool 75 = .ok (.iload_n 1, 1) := by decide +kernel
theorem dX12_cool_76 : decode cX12_cool 76 = .ok (.bipush 17, 2) := by decide +kernel
theorem dX12_cool_78 : decode cX12_cool 78 = .ok (.iconst 3, 1) := by decide +kernel
theorem dX12_cool_79 : decode cX12_cool 79 = .ok (.invokevirtual 126, 3) := by decide +kernel
theorem dX12_cool_82 : decode cX12_cool 82 = .ok (.aload_n 0, 1) := by decide +kernel
theorem dX12_cool_83 : decode cX12_cool 83 = .ok (.iload_n 1, 1) := by decide +kernel
theorem dX12_cool_84 : decode cX12_cool 84 = .ok (.bipush 19, 2) := by decide +kernel
theorem dX12_cool_86 : decode cX12_cool 86 = .ok (.iconst 0, 1) := by decide +kernel
theorem dX12_cool_87 : decode cX12_cool 87 = .ok (.invokevirtual 126, 3) := by decide +kernel
theorem dX12_cool_90 : decode cX12_cool 90 = .ok (.aload_n 0, 1) := by decide +kernel
theorem dX12_cool_91 : decode cX12_cool 91 = .ok (.iload_n 1, 1) := by decide +kernel
theorem dX12_cool_92 : decode cX12_cool 92 = .ok (.bipush 22, 2) := by decide +kernel
theorem dX12_cool_94 : decode cX12_cool 94 = .ok (.aload_n 0, 1) := by decide +kernel
theorem dX12_cool_95 : decode cX12_cool 95 = .ok (.iload_n 1, 1) := by decide +kernel
theorem dX12_cool_96 : decode cX12_cool 96 = .ok (.bipush 22, 2) := by decide +kernel
theorem dX12_cool_98 : decode cX12_cool 98 = .ok (.invokevirtual 95, 3) := by decide +kernel
theorem dX12_cool_101 : decode cX12_cool 101 = .ok (.iconst 1, 1) := by decide +kernel
theorem dX12_cool_102 : decode cX12_cool 102 = .ok (.iadd, 1) := by decide +kernel
theorem dX12_cool_103 : decode cX12_cool 103 = .ok (.invokevirtual 126, 3) := by decide +kernel
theorem dX12_cool_106 : decode cX12_cool 106 = .ok (.aload_n 0, 1) := by decide +kernel
theorem dX12_cool_107 : decode cX12_cool 107 = .ok (.getfield 13, 3) := by decide +kernel
theorem dX12_cool_110 : decode cX12_cool 110 = .ok (.bipush 9, 2) := by decide +kernel
theorem dX12_cool_112 : decode cX12_cool 112 = .ok (.dup2, 1) := by decide +kernel
theorem dX12_cool_113 : decode cX12_cool 113 = .ok (.iaload, 1) := by decide +kernel
theorem dX12_cool_114 : decode cX12_cool 114 = .ok (.iconst 1, 1) := by decide +kernel
theorem dX12_cool_115 : decode cX12_cool 115 = .ok (.iadd, 1) := by decide +kernel
theorem dX12_cool_116 : decode cX12_cool 116 = .ok (.iastore, 1) := by decide +kernel
theorem dX12_cool_117 : decode cX12_cool 117 = .ok (.return_, 1) := by decide +kernel
set_option maxRecDepth 20000 in
theorem ggX12_startIfPossible_X12_hasCook : GoodIn wsX12_startIfPossible wsX12_hasCook := goodIn_r _ [6, 1, 7, 8, 9, 5, 10, 11, 12, 13, 14, 43, 44, 45, 46, 47, 48, 49, 50, 51, 52, 53, 54, 55, 56, 57, 58, 59, 60, 61] rfl (by decide +kernel)
set_option maxRecDepth 20000 in
theorem gX12_startIfPossible_X12_hasCook : GoodIn wsX12_startIfPossible (wsV RX12 133 RX12 yX12_hasCook wsX12_hasCook) := goodIn_app (goodIn_of _ (by decide +kernel)) ggX12_startIfPossible_X12_hasCook
set_option maxRecDepth 20000 in
theorem ggX12_startIfPossible_X12_hasPan : GoodIn wsX12_startIfPossible wsX12_hasPan := goodIn_r _ [18, 11, 12, 13, 5, 14, 1, 19, 20, 21, 22, 23, 24, 25, 26, 27, 28, 29, 30, 31, 32, 33, 34, 35, 36, 37, 38, 43, 44, 45, 46, 47, 48, 49, 50, 51, 52, 53, 54, 55, 56, 57, 58, 59, 60, 61] rfl (by decide +kernel)
set_option maxRecDepth 20000 in
theorem gX12_startIfPossible_X12_hasPan : GoodIn wsX12_startIfPossible (wsV RX12 136 RX12 yX12_hasPan wsX12_hasPan) := goodIn_app (goodIn_of _ (by decide +kernel)) ggX12_startIfPossible_X12_hasPan
set_option maxRecDepth 20000 in
theorem ggX12_startIfPossible_X12_set : GoodIn wsX12_startIfPossible wsX12_set := goodIn_r _ [42, 1, 43, 44, 45, 46, 47, 48, 49, 50, 51, 52, 53, 54, 55, 56, 57, 58, 59, 60, 61] rfl (by decide +kernel)
set_option maxRecDepth 20000 in
theorem gX12_startIfPossible_X12_set : GoodIn wsX12_startIfPossible (wsV RX12 126 RX12 yX12_set wsX12_set) := goodIn_app (goodIn_of _ (by decide +kernel)) ggX12_startIfPossible_X12_set
set_option maxRecDepth 20000 in
theorem ggX12_startIfPossible_X12_of : GoodIn wsX12_startIfPossible wsX12_of := goodIn_r _ [14, 1, 43, 44, 45, 46, 47, 48, 49, 50, 51, 52, 53, 54, 55, 56, 57, 58, 59, 60, 61] rfl (by decide +kernel)
set_option maxRecDepth 20000 in
theorem gX12_startIfPossible_X12_of : GoodIn wsX12_startIfPossible (wsV RX12 95 RX12 yX12_of wsX12_of) := goodIn_app (goodIn_of _ (by decide +kernel)) ggX12_startIfPossible_X12_of
theorem dX12_startIfPossible_0 : decode cX12_startIfPossible 0 = .ok (.aload_n 0, 1) := by decide +kernel
theorem dX12_startIfPossible_1 : decode cX12_startIfPossible 1 = .ok (.iload_n 1, 1) := by decide +kernel
theorem dX12_startIfPossible_2 : decode cX12_startIfPossible 2 = .ok (.invokevirtual 133, 3) := by decide +kernel
theorem dX12_startIfPossible_5 : decode cX12_startIfPossible 5 = .ok (.ifCond .eq 11, 3) := by decide +kernel
theorem dX12_startIfPossible_8 : decode cX12_startIfPossible 8 = .ok (.aload_n 0, 1) := by decide +kernel
theorem dX12_startIfPossible_9 : decode cX12_startIfPossible 9 = .ok (.iload_n 1, 1) := by decide +kernel
theorem dX12_startIfPossible_10 : decode cX12_startIfPossible 10 = .ok (.invokevirtual 136, 3) := by decide +kernel
theorem dX12_startIfPossible_13 : decode cX12_startIfPossible 13 = .ok (.ifCond .ne 4, 3) := by decide +kernel
theorem dX12_startIfPossible_16 : decode cX12_startIfPossible 16 = .ok (.return_, 1) := by decide +kernel
theorem dX12_startIfPossible_17 : decode cX12_startIfPossible 17 = .ok (.aload_n 0, 1) := by decide +kernel
theorem dX12_startIfPossible_18 : decode cX12_startIfPossible 18 = .ok (.iload_n 1, 1) := by decide +kernel
theorem dX12_startIfPossible_19 : decode cX12_startIfPossible 19 = .ok (.bipush 17, 2) := by decide +kernel
theorem dX12_startIfPossible_21 : decode cX12_startIfPossible 21 = .ok (.iconst 1, 1) := by decide +kernel
theorem dX12_startIfPossible_22 : decode cX12_startIfPossible 22 = .ok (.invokevirtual 126, 3) := by decide +kernel
theorem dX12_startIfPossible_25 : decode cX12_startIfPossible 25 = .ok (.aload_n 0, 1) := by decide +kernel
theorem dX12_startIfPossible_26 : decode cX12_startIfPossible 26 = .ok (.iload_n 1, 1) := by decide +kernel
theorem dX12_startIfPossible_27 : decode cX12_startIfPossible 27 = .ok (.bipush 18, 2) := by decide +kernel
theorem dX12_startIfPossible_29 : decode cX12_startIfPossible 29 = .ok (.aload_n 0, 1) := by decide +kernel
theorem dX12_startIfPossible_30 : decode cX12_startIfPossible 30 = .ok (.iload_n 1, 1) := by decide +kernel
theorem dX12_startIfPossible_31 : decode cX12_startIfPossible 31 = .ok (.bipush 7, 2) := by decide +kernel
theorem dX12_startIfPossible_33 : decode cX12_startIfPossible 33 = .ok (.invokevirtual 95, 3) := by decide +kernel
theorem dX12_startIfPossible_36 : decode cX12_startIfPossible 36 = .ok (.invokevirtual 126, 3) := by decide +kernel
theorem dX12_startIfPossible_39 : decode cX12_startIfPossible 39 = .ok (.aload_n 0, 1) := by decide +kernel
theorem dX12_startIfPossible_40 : decode cX12_startIfPossible 40 = .ok (.iload_n 1, 1) := by decide +kernel
theorem dX12_startIfPossible_41 : decode cX12_startIfPossible 41 = .ok (.bipush 20, 2) := by decide +kernel
theorem dX12_startIfPossible_43 : decode cX12_startIfPossible 43 = .ok (.aload_n 0, 1) := by decide +kernel
theorem dX12_startIfPossible_44 : decode cX12_startIfPossible 44 = .ok (.iload_n 1, 1) := by decide +kernel
theorem dX12_startIfPossible_45 : decode cX12_startIfPossible 45 = .ok (.bipush 20, 2) := by decide +kernel
theorem dX12_startIfPossible_47 : decode cX12_startIfPossible 47 = .ok (.invokevirtual 95, 3) := by decide +kernel
theorem dX12_startIfPossible_50 : decode cX12_startIfPossible 50 = .ok (.iconst 1, 1) := by decide +kernel
theorem dX12_startIfPossible_51 : decode cX12_startIfPossible 51 = .ok (.iadd, 1) := by decide +kernel
theorem dX12_startIfPossible_52 : decode cX12_startIfPossible 52 = .ok (.invokevirtual 126, 3) := by decide +kernel
theorem dX12_startIfPossible_55 : decode cX12_startIfPossible 55 = .ok (.aload_n 0, 1) := by decide +kernel
theorem dX12_startIfPossible_56 : decode cX12_startIfPossible 56 = .ok (.getfield 13, 3) := by decide +kernel
theorem dX12_startIfPossible_59 : decode cX12_startIfPossible 59 = .ok (.bipush 7, 2) := by decide +kernel
theorem dX12_startIfPossible_61 : decode cX12_startIfPossible 61 = .ok (.dup2, 1) := by decide +kernel
theorem dX12_startIfPossible_62 : decode cX12_startIfPossible 62 = .ok (.iaload, 1) := by decide +kernel
theorem dX12_startIfPossible_63 : decode cX12_startIfPossible 63 = .ok (.iconst 1, 1) := by decide +kernel
theorem dX12_startIfPossible_64 : decode cX12_startIfPossible 64 = .ok (.iadd, 1) := by decide +kernel
theorem dX12_startIfPossible_65 : decode cX12_startIfPossible 65 = .ok (.iastore, 1) := by decide +kernel
theorem dX12_startIfPossible_66 : decode cX12_startIfPossible 66 = .ok (.return_, 1) := by decide +kernel
set_option maxRecDepth 20000 in
theorem ggX12_queueReady_X12_computePaths : GoodIn wsX12_queueReady wsX12_computePaths := goodIn_r _ [8, 1, 2, 9, 10, 11, 7, 12, 13, 14, 15, 16, 25, 26, 27, 28, 29, 30, 31, 32, 33, 34, 35, 36, 37, 38, 39, 40, 41, 42, 43] rfl (by decide +kernel)
set_option maxRecDepth 20000 in
theorem gX12_queueReady_X12_computePaths : GoodIn wsX12_queueReady (wsV RX12 139 RX12 yX12_computePaths wsX12_computePaths) := goodIn_app (goodIn_of _ (by decide +kernel)) ggX12_queueReady_X12_computePaths
set_option maxRecDepth 20000 in
theorem ggX12_queueReady_X12_isReady : GoodIn wsX12_queueReady wsX12_isReady := goodIn_r _ [20, 13, 14, 15, 7, 16, 1, 21, 22, 23, 24, 25, 26, 27, 28, 29, 30, 31, 32, 33, 34, 35, 36, 37, 38, 39, 40, 41, 42, 43] rfl (by decide +kernel)
set_option maxRecDepth 20000 in
theorem gX12_queueReady_X12_isReady : GoodIn wsX12_queueReady (wsV RX12 142 RX12 yX12_isReady wsX12_isReady) := goodIn_app (goodIn_of _ (by decide +kernel)) ggX12_queueReady_X12_isReady
theorem dX12_queueReady_0 : decode cX12_queueReady 0 = .ok (.aload_n 0, 1) := by decide +kernel
theorem dX12_queueReady_1 : decode cX12_queueReady 1 = .ok (.invokevirtual 139, 3) := by decide +kernel
theorem dX12_queueReady_4 : decode cX12_queueReady 4 = .ok (.iconst 0, 1) := by decide +kernel
theorem dX12_queueReady_5 : decode cX12_queueReady 5 = .ok (.istore_n 1, 1) := by decide +kernel
theorem dX12_queueReady_6 : decode cX12_queueReady 6 = .ok (.iconst 0, 1) := by decide +kernel
theorem dX12_queueReady_7 : decode cX12_queueReady 7 = .ok (.istore_n 2, 1) := by decide +kernel
theorem dX12_queueReady_8 : decode cX12_queueReady 8 = .ok (.iload_n 2, 1) := by decide +kernel
theorem dX12_queueReady_9 : decode cX12_queueReady 9 = .ok (.aload_n 0, 1) := by decide +kernel
theorem dX12_queueReady_10 : decode cX12_queueReady 10 = .ok (.getfield 13, 3) := by decide +kernel
theorem dX12_queueReady_13 : decode cX12_queueReady 13 = .ok (.bipush 13, 2) := by decide +kernel
theorem dX12_queueReady_15 : decode cX12_queueReady 15 = .ok (.iaload, 1) := by decide +kernel
theorem dX12_queueReady_16 : decode cX12_queueReady 16 = .ok (.if_icmp .ge 78, 3) := by decide +kernel
theorem dX12_queueReady_19 : decode cX12_queueReady 19 = .ok (.aload_n 0, 1) := by decide +kernel
theorem dX12_queueReady_20 : decode cX12_queueReady 20 = .ok (.iload_n 2, 1) := by decide +kernel
theorem dX12_queueReady_21 : decode cX12_queueReady 21 = .ok (.invokevirtual 142, 3) := by decide +kernel
theorem dX12_queueReady_24 : decode cX12_queueReady 24 = .ok (.ifCond .ne 6, 3) := by decide +kernel
theorem dX12_queueReady_27 : decode cX12_queueReady 27 = .ok (.goto 61, 3) := by decide +kernel
theorem dX12_queueReady_30 : decode cX12_queueReady 30 = .ok (.iload_n 1, 1) := by decide +kernel
theorem dX12_queueReady_31 : decode cX12_queueReady 31 = .ok (.istore_n 3, 1) := by decide +kernel
theorem dX12_queueReady_32 : decode cX12_queueReady 32 = .ok (.iload_n 3, 1) := by decide +kernel
theorem dX12_queueReady_33 : decode cX12_queueReady 33 = .ok (.ifCond .le 45, 3) := by decide +kernel
theorem dX12_queueReady_36 : decode cX12_queueReady 36 = .ok (.aload_n 0, 1) := by decide +kernel
theorem dX12_queueReady_37 : decode cX12_queueReady 37 = .ok (.getfield 42, 3) := by decide +kernel
theorem dX12_queueReady_40 : decode cX12_queueReady 40 = .ok (.aload_n 0, 1) := by decide +kernel
theorem dX12_queueReady_41 : decode cX12_queueReady 41 = .ok (.getfield 51, 3) := by decide +kernel
theorem dX12_queueReady_44 : decode cX12_queueReady 44 = .ok (.iload_n 3, 1) := by decide +kernel
theorem dX12_queueReady_45 : decode cX12_queueReady 45 = .ok (.iconst 1, 1) := by decide +kernel
theorem dX12_queueReady_46 : decode cX12_queueReady 46 = .ok (.isub, 1) := by decide +kernel
theorem dX12_queueReady_47 : decode cX12_queueReady 47 = .ok (.iaload, 1) := by decide +kernel
theorem dX12_queueReady_48 : decode cX12_queueReady 48 = .ok (.iaload, 1) := by decide +kernel
theorem dX12_queueReady_49 : decode cX12_queueReady 49 = .ok (.aload_n 0, 1) := by decide +kernel
theorem dX12_queueReady_50 : decode cX12_queueReady 50 = .ok (.getfield 42, 3) := by decide +kernel
theorem dX12_queueReady_53 : decode cX12_queueReady 53 = .ok (.iload_n 2, 1) := by decide +kernel
theorem dX12_queueReady_54 : decode cX12_queueReady 54 = .ok (.iaload, 1) := by decide +kernel
theorem dX12_queueReady_55 : decode cX12_queueReady 55 = .ok (.if_icmp .ge 23, 3) := by decide +kernel
theorem dX12_queueReady_58 : decode cX12_queueReady 58 = .ok (.aload_n 0, 1) := by decide +kernel
theorem dX12_queueReady_59 : decode cX12_queueReady 59 = .ok (.getfield 51, 3) := by decide +kernel
theorem dX12_queueReady_62 : decode cX12_queueReady 62 = .ok (.iload_n 3, 1) := by decide +kernel
theorem dX12_queueReady_63 : decode cX12_queueReady 63 = .ok (.aload_n 0, 1) := by decide +kernel
theorem dX12_queueReady_64 : decode cX12_queueReady 64 = .ok (.getfield 51, 3) := by decide +kernel
theorem dX12_queueReady_67 : decode cX12_queueReady 67 = .ok (.iload_n 3, 1) := by decide +kernel
theorem dX12_queueReady_68 : decode cX12_queueReady 68 = .ok (.iconst 1, 1) := by decide +kernel
theorem dX12_queueReady_69 : decode cX12_queueReady 69 = .ok (.isub, 1) := by decide +kernel
theorem dX12_queueReady_70 : decode cX12_queueReady 70 = .ok (.iaload, 1) := by decide +kernel
theorem dX12_queueReady_71 : decode cX12_queueReady 71 = .ok (.iastore, 1) := by decide +kernel
theorem dX12_queueReady_72 : decode cX12_queueReady 72 = .ok (.iinc 3 (-1), 3) := by decide +kernel
theorem dX12_queueReady_75 : decode cX12_queueReady 75 = .ok (.goto (-43), 3) := by decide +kernel
theorem dX12_queueReady_78 : decode cX12_queueReady 78 = .ok (.aload_n 0, 1) := by decide +kernel
theorem dX12_queueReady_79 : decode cX12_queueReady 79 = .ok (.getfield 51, 3) := by decide +kernel
theorem dX12_queueReady_82 : decode cX12_queueReady 82 = .ok (.iload_n 3, 1) := by decide +kernel
theorem dX12_queueReady_83 : decode cX12_queueReady 83 = .ok (.iload_n 2, 1) := by decide +kernel
theorem dX12_queueReady_84 : decode cX12_queueReady 84 = .ok (.iastore, 1) := by decide +kernel
theorem dX12_queueReady_85 : decode cX12_queueReady 85 = .ok (.iinc 1 1, 3) := by decide +kernel
theorem dX12_queueReady_88 : decode cX12_queueReady 88 = .ok (.iinc 2 1, 3) := by decide +kernel
theorem dX12_queueReady_91 : decode cX12_queueReady 91 = .ok (.goto (-83), 3) := by decide +kernel
theorem dX12_queueReady_94 : decode cX12_queueReady 94 = .ok (.iload_n 1, 1) := by decide +kernel
theorem dX12_queueReady_95 : decode cX12_queueReady 95 = .ok (.ireturn, 1) := by decide +kernel
set_option maxRecDepth 20000 in
theorem ggX12_passMinute_X12_work : GoodIn wsX12_passMinute wsX12_work := goodIn_r _ [7, 1, 8, 9, 10, 6, 11, 12, 13, 14, 15, 77, 78, 79, 80, 81, 82, 83, 84, 85, 86, 87, 88, 89, 90, 91, 92, 93, 94, 95] rfl (by decide +kernel)
set_option maxRecDepth 20000 in
theorem gX12_passMinute_X12_work : GoodIn wsX12_passMinute (wsV RX12 145 RX12 yX12_work wsX12_work) := goodIn_app (goodIn_of _ (by decide +kernel)) ggX12_passMinute_X12_work
set_option maxRecDepth 20000 in
theorem ggX12_passMinute_X12_cool : GoodIn wsX12_passMinute wsX12_cool := goodIn_r _ [19, 1, 12, 13, 14, 6, 15, 20, 21, 22, 23, 24, 25, 26, 27, 28, 29, 30, 31, 8, 9, 10, 11, 77, 78, 79, 80, 81, 82, 83, 84, 85, 86, 87, 88, 89, 90, 91, 92, 93, 94, 95] rfl (by decide +kernel)
set_option maxRecDepth 20000 in
theorem gX12_passMinute_X12_cool : GoodIn wsX12_passMinute (wsV RX12 149 RX12 yX12_cool wsX12_cool) := goodIn_app (goodIn_of _ (by decide +kernel)) ggX12_passMinute_X12_cool
set_option maxRecDepth 20000 in
theorem ggX12_passMinute_X12_queueReady : GoodIn wsX12_passMinute wsX12_queueReady := goodIn_r _ [35, 1, 36, 2, 37, 38, 39, 6, 40, 28, 29, 30, 31, 12, 13, 14, 15, 41, 42, 43, 44, 45, 46, 47, 48, 77, 78, 79, 80, 81, 82, 83, 84, 85, 86, 87, 88, 89, 90, 91, 92, 93, 94, 95] rfl (by decide +kernel)
set_option maxRecDepth 20000 in
theorem gX12_passMinute_X12_queueReady : GoodIn wsX12_passMinute (wsV RX12 152 RX12 yX12_queueReady wsX12_queueReady) := goodIn_app (goodIn_of _ (by decide +kernel)) ggX12_passMinute_X12_queueReady
set_option maxRecDepth 20000 in
theorem ggX12_passMinute_X12_startIfPossible : GoodIn wsX12_passMinute wsX12_startIfPossible := goodIn_r _ [52, 1, 53, 54, 55, 6, 56, 57, 58, 59, 60, 12, 13, 14, 15, 61, 62, 63, 64, 65, 66, 67, 68, 69, 70, 71, 72, 24, 25, 26, 27, 28, 29, 30, 31, 73, 74, 75, 76, 8, 9, 10, 11, 77, 78, 79, 80, 81, 82, 83, 84, 85, 86, 87, 88, 89, 90, 91, 92, 93, 94, 95] rfl (by decide +kernel)
set_option maxRecDepth 20000 in
theorem gX12_passMinute_X12_startIfPossible : GoodIn wsX12_passMinute (wsV RX12 155 RX12 yX12_startIfPossible wsX12_startIfPossible) := goodIn_app (goodIn_of _ (by decide +kernel)) ggX12_passMinute_X12_startIfPossible
theorem dX12_passMinute_0 : decode cX12_passMinute 0 = .ok (.aload_n 0, 1) := by decide +kernel
theorem dX12_passMinute_1 : decode cX12_passMinute 1 = .ok (.getfield 13, 3) := by decide +kernel
theorem dX12_passMinute_4 : decode cX12_passMinute 4 = .ok (.bipush 6, 2) := by decide +kernel
theorem dX12_passMinute_6 : decode cX12_passMinute 6 = .ok (.iaload, 1) := by decide +kernel
theorem dX12_passMinute_7 : decode cX12_passMinute 7 = .ok (.ifCond .ne 79, 3) := by decide +kernel
theorem dX12_passMinute_10 : decode cX12_passMinute 10 = .ok (.iconst 0, 1) := by decide +kernel
theorem dX12_passMinute_11 : decode cX12_passMinute 11 = .ok (.istore_n 1, 1) := by decide +kernel
theorem dX12_passMinute_12 : decode cX12_passMinute 12 = .ok (.iload_n 1, 1) := by decide +kernel
theorem dX12_passMinute_13 : decode cX12_passMinute 13 = .ok (.aload_n 0, 1) := by decide +kernel
theorem dX12_passMinute_14 : decode cX12_passMinute 14 = .ok (.getfield 13, 3) := by decide +kernel
theorem dX12_passMinute_17 : decode cX12_passMinute 17 = .ok (.bipush 13, 2) := by decide +kernel
theorem dX12_passMinute_19 : decode cX12_passMinute 19 = .ok (.iaload, 1) := by decide +kernel
theorem dX12_passMinute_20 : decode cX12_passMinute 20 = .ok (.if_icmp .ge 14, 3) := by decide +kernel
theorem dX12_passMinute_23 : decode cX12_passMinute 23 = .ok (.aload_n 0, 1) := by decide +kernel
theorem dX12_passMinute_24 : decode cX12_passMinute 24 = .ok (.iload_n 1, 1) := by decide +kernel
theorem dX12_passMinute_25 : decode cX12_passMinute 25 = .ok (.invokevirtual 145, 3) := by decide +kernel
theorem dX12_passMinute_28 : decode cX12_passMinute 28 = .ok (.iinc 1 1, 3) := by decide +kernel
theorem dX12_passMinute_31 : decode cX12_passMinute 31 = .ok (.goto (-19), 3) := by decide +kernel
theorem dX12_passMinute_34 : decode cX12_passMinute 34 = .ok (.iconst 0, 1) := by decide +kernel
theorem dX12_passMinute_35 : decode cX12_passMinute 35 = .ok (.istore_n 1, 1) := by decide +kernel
theorem dX12_passMinute_36 : decode cX12_passMinute 36 = .ok (.iload_n 1, 1) := by decide +kernel
theorem dX12_passMinute_37 : decode cX12_passMinute 37 = .ok (.aload_n 0, 1) := by decide +kernel
theorem dX12_passMinute_38 : decode cX12_passMinute 38 = .ok (.getfield 13, 3) := by decide +kernel
theorem dX12_passMinute_41 : decode cX12_passMinute 41 = .ok (.bipush 13, 2) := by decide +kernel
theorem dX12_passMinute_43 : decode cX12_passMinute 43 = .ok (.iaload, 1) := by decide +kernel
theorem dX12_passMinute_44 : decode cX12_passMinute 44 = .ok (.if_icmp .ge 14, 3) := by decide +kernel
theorem dX12_passMinute_47 : decode cX12_passMinute 47 = .ok (.aload_n 0, 1) := by decide +kernel
theorem dX12_passMinute_48 : decode cX12_passMinute 48 = .ok (.iload_n 1, 1) := by decide +kernel
theorem dX12_passMinute_49 : decode cX12_passMinute 49 = .ok (.invokevirtual 149, 3) := by decide +kernel
theorem dX12_passMinute_52 : decode cX12_passMinute 52 = .ok (.iinc 1 1, 3) := by decide +kernel
theorem dX12_passMinute_55 : decode cX12_passMinute 55 = .ok (.goto (-19), 3) := by decide +kernel
theorem dX12_passMinute_58 : decode cX12_passMinute 58 = .ok (.aload_n 0, 1) := by decide +kernel
theorem dX12_passMinute_59 : decode cX12_passMinute 59 = .ok (.invokevirtual 152, 3) := by decide +kernel
theorem dX12_passMinute_62 : decode cX12_passMinute 62 = .ok (.istore_n 1, 1) := by decide +kernel
theorem dX12_passMinute_63 : decode cX12_passMinute 63 = .ok (.iconst 0, 1) := by decide +kernel
theorem dX12_passMinute_64 : decode cX12_passMinute 64 = .ok (.istore_n 2, 1) := by decide +kernel
theorem dX12_passMinute_65 : decode cX12_passMinute 65 = .ok (.iload_n 2, 1) := by decide +kernel
theorem dX12_passMinute_66 : decode cX12_passMinute 66 = .ok (.iload_n 1, 1) := by decide +kernel
theorem dX12_passMinute_67 : decode cX12_passMinute 67 = .ok (.if_icmp .ge 19, 3) := by decide +kernel
theorem dX12_passMinute_70 : decode cX12_passMinute 70 = .ok (.aload_n 0, 1) := by decide +kernel
theorem dX12_passMinute_71 : decode cX12_passMinute 71 = .ok (.aload_n 0, 1) := by decide +kernel
theorem dX12_passMinute_72 : decode cX12_passMinute 72 = .ok (.getfield 51, 3) := by decide +kernel
theorem dX12_passMinute_75 : decode cX12_passMinute 75 = .ok (.iload_n 2, 1) := by decide +kernel
theorem dX12_passMinute_76 : decode cX12_passMinute 76 = .ok (.iaload, 1) := by decide +kernel
theorem dX12_passMinute_77 : decode cX12_passMinute 77 = .ok (.invokevirtual 155, 3) := by decide +kernel
theorem dX12_passMinute_80 : decode cX12_passMinute 80 = .ok (.iinc 2 1, 3) := by decide +kernel
theorem dX12_passMinute_83 : decode cX12_passMinute 83 = .ok (.goto (-18), 3) := by decide +kernel
theorem dX12_passMinute_86 : decode cX12_passMinute 86 = .ok (.aload_n 0, 1) := by decide +kernel
theorem dX12_passMinute_87 : decode cX12_passMinute 87 = .ok (.getfield 13, 3) := by decide +kernel
theorem dX12_passMinute_90 : decode cX12_passMinute 90 = .ok (.iconst 4, 1) := by decide +kernel
theorem dX12_passMinute_91 : decode cX12_passMinute 91 = .ok (.dup2, 1) := by decide +kernel
theorem dX12_passMinute_92 : decode cX12_passMinute 92 = .ok (.iaload, 1) := by decide +kernel
theorem dX12_passMinute_93 : decode cX12_passMinute 93 = .ok (.iconst 1, 1) := by decide +kernel
theorem dX12_passMinute_94 : decode cX12_passMinute 94 = .ok (.iadd, 1) := by decide +kernel
theorem dX12_passMinute_95 : decode cX12_passMinute 95 = .ok (.iastore, 1) := by decide +kernel
theorem dX12_passMinute_96 : decode cX12_passMinute 96 = .ok (.return_, 1) := by decide +kernel
set_option maxRecDepth 20000 in
theorem ggX12_passMinutes_X12_passMinute : GoodIn wsX12_passMinutes wsX12_passMinute := goodIn_r _ [6, 1, 7, 8, 9, 10, 5, 11, 12, 13, 14, 15, 16, 17, 18, 19, 20, 21, 22, 23, 24, 25, 26, 27, 28, 29, 30, 31, 32, 33, 34, 35, 36, 37, 38, 39, 40, 41, 42, 43, 44, 45, 46, 47, 48, 49, 50, 51, 52, 53, 54, 55, 56, 57, 58, 59, 60, 61, 62, 63, 64, 65, 66, 67, 68, 69, 70, 71, 72, 73, 74, 75, 76, 77, 78, 79, 80, 81, 82, 83, 84, 85, 86, 87, 88, 89, 90, 91, 92, 93, 94, 95, 96, 97, 98, 99] rfl (by decide +kernel)
set_option maxRecDepth 20000 in
theorem gX12_passMinutes_X12_passMinute : GoodIn wsX12_passMinutes (wsV RX12 158 RX12 yX12_passMinute wsX12_passMinute) := goodIn_app (goodIn_of _ (by decide +kernel)) ggX12_passMinutes_X12_passMinute
theorem dX12_passMinutes_0 : decode cX12_passMinutes 0 = .ok (.aload_n 0, 1) := by decide +kernel
theorem dX12_passMinutes_1 : decode cX12_passMinutes 1 = .ok (.getfield 13, 3) := by decide +kernel
theorem dX12_passMinutes_4 : decode cX12_passMinutes 4 = .ok (.bipush 8, 2) := by decide +kernel
theorem dX12_passMinutes_6 : decode cX12_passMinutes 6 = .ok (.iaload, 1) := by decide +kernel
theorem dX12_passMinutes_7 : decode cX12_passMinutes 7 = .ok (.istore_n 2, 1) := by decide +kernel
theorem dX12_passMinutes_8 : decode cX12_passMinutes 8 = .ok (.iconst 0, 1) := by decide +kernel
theorem dX12_passMinutes_9 : decode cX12_passMinutes 9 = .ok (.istore_n 3, 1) := by decide +kernel
theorem dX12_passMinutes_10 : decode cX12_passMinutes 10 = .ok (.iload_n 3, 1) := by decide +kernel
theorem dX12_passMinutes_11 : decode cX12_passMinutes 11 = .ok (.iload_n 1, 1) := by decide +kernel
theorem dX12_passMinutes_12 : decode cX12_passMinutes 12 = .ok (.if_icmp .ge 13, 3) := by decide +kernel
theorem dX12_passMinutes_15 : decode cX12_passMinutes 15 = .ok (.aload_n 0, 1) := by decide +kernel
theorem dX12_passMinutes_16 : decode cX12_passMinutes 16 = .ok (.invokevirtual 158, 3) := by decide +kernel
theorem dX12_passMinutes_19 : decode cX12_passMinutes 19 = .ok (.iinc 3 1, 3) := by decide +kernel
theorem dX12_passMinutes_22 : decode cX12_passMinutes 22 = .ok (.goto (-12), 3) := by decide +kernel
theorem dX12_passMinutes_25 : decode cX12_passMinutes 25 = .ok (.aload_n 0, 1) := by decide +kernel
theorem dX12_passMinutes_26 : decode cX12_passMinutes 26 = .ok (.getfield 13, 3) := by decide +kernel
theorem dX12_passMinutes_29 : decode cX12_passMinutes 29 = .ok (.bipush 8, 2) := by decide +kernel
theorem dX12_passMinutes_31 : decode cX12_passMinutes 31 = .ok (.iaload, 1) := by decide +kernel
theorem dX12_passMinutes_32 : decode cX12_passMinutes 32 = .ok (.iload_n 2, 1) := by decide +kernel
theorem dX12_passMinutes_33 : decode cX12_passMinutes 33 = .ok (.isub, 1) := by decide +kernel
theorem dX12_passMinutes_34 : decode cX12_passMinutes 34 = .ok (.ireturn, 1) := by decide +kernel
set_option maxRecDepth 20000 in
theorem ggX12_tasteNow_X12_of : GoodIn wsX12_tasteNow wsX12_of := goodIn_r _ [6, 1, 7, 8, 9, 10, 11, 12, 13, 14, 15, 16, 17, 18, 19, 20, 21, 22, 23, 24, 25] rfl (by decide +kernel)
set_option maxRecDepth 20000 in
theorem gX12_tasteNow_X12_of : GoodIn wsX12_tasteNow (wsV RX12 95 RX12 yX12_of wsX12_of) := goodIn_app (goodIn_of _ (by decide +kernel)) ggX12_tasteNow_X12_of
theorem dX12_tasteNow_0 : decode cX12_tasteNow 0 = .ok (.aload_n 0, 1) := by decide +kernel
theorem dX12_tasteNow_1 : decode cX12_tasteNow 1 = .ok (.getfield 13, 3) := by decide +kernel
theorem dX12_tasteNow_4 : decode cX12_tasteNow 4 = .ok (.iconst 5, 1) := by decide +kernel
theorem dX12_tasteNow_5 : decode cX12_tasteNow 5 = .ok (.iaload, 1) := by decide +kernel
theorem dX12_tasteNow_6 : decode cX12_tasteNow 6 = .ok (.istore_n 1, 1) := by decide +kernel
theorem dX12_tasteNow_7 : decode cX12_tasteNow 7 = .ok (.iconst 0, 1) := by decide +kernel
theorem dX12_tasteNow_8 : decode cX12_tasteNow 8 = .ok (.istore_n 2, 1) := by decide +kernel
theorem dX12_tasteNow_9 : decode cX12_tasteNow 9 = .ok (.iload_n 2, 1) := by decide +kernel
theorem dX12_tasteNow_10 : decode cX12_tasteNow 10 = .ok (.aload_n 0, 1) := by decide +kernel
theorem dX12_tasteNow_11 : decode cX12_tasteNow 11 = .ok (.getfield 13, 3) := by decide +kernel
theorem dX12_tasteNow_14 : decode cX12_tasteNow 14 = .ok (.bipush 13, 2) := by decide +kernel
theorem dX12_tasteNow_16 : decode cX12_tasteNow 16 = .ok (.iaload, 1) := by decide +kernel
theorem dX12_tasteNow_17 : decode cX12_tasteNow 17 = .ok (.if_icmp .ge 34, 3) := by decide +kernel
theorem dX12_tasteNow_20 : decode cX12_tasteNow 20 = .ok (.iload_n 1, 1) := by decide +kernel
theorem dX12_tasteNow_21 : decode cX12_tasteNow 21 = .ok (.aload_n 0, 1) := by decide +kernel
theorem dX12_tasteNow_22 : decode cX12_tasteNow 22 = .ok (.iload_n 2, 1) := by decide +kernel
theorem dX12_tasteNow_23 : decode cX12_tasteNow 23 = .ok (.bipush 17, 2) := by decide +kernel
theorem dX12_tasteNow_25 : decode cX12_tasteNow 25 = .ok (.invokevirtual 95, 3) := by decide +kernel
theorem dX12_tasteNow_28 : decode cX12_tasteNow 28 = .ok (.iconst 2, 1) := by decide +kernel
theorem dX12_tasteNow_29 : decode cX12_tasteNow 29 = .ok (.if_icmp .ne 13, 3) := by decide +kernel
theorem dX12_tasteNow_32 : decode cX12_tasteNow 32 = .ok (.aload_n 0, 1) := by decide +kernel
theorem dX12_tasteNow_33 : decode cX12_tasteNow 33 = .ok (.iload_n 2, 1) := by decide +kernel
theorem dX12_tasteNow_34 : decode cX12_tasteNow 34 = .ok (.bipush 8, 2) := by decide +kernel
theorem dX12_tasteNow_36 : decode cX12_tasteNow 36 = .ok (.invokevirtual 95, 3) := by decide +kernel
theorem dX12_tasteNow_39 : decode cX12_tasteNow 39 = .ok (.goto 4, 3) := by decide +kernel
theorem dX12_tasteNow_42 : decode cX12_tasteNow 42 = .ok (.iconst 0, 1) := by decide +kernel
theorem dX12_tasteNow_43 : decode cX12_tasteNow 43 = .ok (.iadd, 1) := by decide +kernel
theorem dX12_tasteNow_44 : decode cX12_tasteNow 44 = .ok (.istore_n 1, 1) := by decide +kernel
theorem dX12_tasteNow_45 : decode cX12_tasteNow 45 = .ok (.iinc 2 1, 3) := by decide +kernel
theorem dX12_tasteNow_48 : decode cX12_tasteNow 48 = .ok (.goto (-39), 3) := by decide +kernel
theorem dX12_tasteNow_51 : decode cX12_tasteNow 51 = .ok (.iload_n 1, 1) := by decide +kernel
theorem dX12_tasteNow_52 : decode cX12_tasteNow 52 = .ok (.ireturn, 1) := by decide +kernel
set_option maxRecDepth 20000 in
theorem ggX12_servingReason_X12_withStatus : GoodIn wsX12_servingReason wsX12_withStatus := goodIn_r _ [6, 1, 7, 8, 9, 5, 10, 19, 20, 21, 22, 23, 24, 25, 26, 27, 28, 29, 30, 31, 32, 33, 34, 35, 36, 37] rfl (by decide +kernel)
set_option maxRecDepth 20000 in
theorem gX12_servingReason_X12_withStatus : GoodIn wsX12_servingReason (wsV RX12 123 RX12 yX12_withStatus wsX12_withStatus) := goodIn_app (goodIn_of _ (by decide +kernel)) ggX12_servingReason_X12_withStatus
set_option maxRecDepth 20000 in
theorem ggX12_servingReason_X12_isFinished : GoodIn wsX12_servingReason wsX12_isFinished := goodIn_r _ [14, 1, 2, 3, 4, 5, 6, 7, 8, 9, 10, 19, 20, 21, 22, 23, 24, 25, 26, 27, 28, 29, 30, 31, 32, 33, 34, 35, 36, 37] rfl (by decide +kernel)
set_option maxRecDepth 20000 in
theorem gX12_servingReason_X12_isFinished : GoodIn wsX12_servingReason (wsV RX12 161 RX12 yX12_isFinished wsX12_isFinished) := goodIn_app (goodIn_of _ (by decide +kernel)) ggX12_servingReason_X12_isFinished
set_option maxRecDepth 20000 in
theorem ggX12_servingReason_X12_tasteNow : GoodIn wsX12_servingReason wsX12_tasteNow := goodIn_r _ [18, 1, 7, 8, 9, 5, 10, 19, 20, 21, 22, 23, 24, 25, 26, 27, 28, 29, 30, 31, 32, 33, 34, 35, 36, 37] rfl (by decide +kernel)
set_option maxRecDepth 20000 in
theorem gX12_servingReason_X12_tasteNow : GoodIn wsX12_servingReason (wsV RX12 164 RX12 yX12_tasteNow wsX12_tasteNow) := goodIn_app (goodIn_of _ (by decide +kernel)) ggX12_servingReason_X12_tasteNow
theorem dX12_servingReason_0 : decode cX12_servingReason 0 = .ok (.aload_n 0, 1) := by decide +kernel
theorem dX12_servingReason_1 : decode cX12_servingReason 1 = .ok (.getfield 13, 3) := by decide +kernel
theorem dX12_servingReason_4 : decode cX12_servingReason 4 = .ok (.bipush 6, 2) := by decide +kernel
theorem dX12_servingReason_6 : decode cX12_servingReason 6 = .ok (.iaload, 1) := by decide +kernel
theorem dX12_servingReason_7 : decode cX12_servingReason 7 = .ok (.iconst 1, 1) := by decide +kernel
theorem dX12_servingReason_8 : decode cX12_servingReason 8 = .ok (.if_icmp .ne 5, 3) := by decide +kernel
theorem dX12_servingReason_11 : decode cX12_servingReason 11 = .ok (.iconst 1, 1) := by decide +kernel
theorem dX12_servingReason_12 : decode cX12_servingReason 12 = .ok (.ireturn, 1) := by decide +kernel
theorem dX12_servingReason_13 : decode cX12_servingReason 13 = .ok (.aload_n 0, 1) := by decide +kernel
theorem dX12_servingReason_14 : decode cX12_servingReason 14 = .ok (.iconst 3, 1) := by decide +kernel
theorem dX12_servingReason_15 : decode cX12_servingReason 15 = .ok (.invokevirtual 123, 3) := by decide +kernel
theorem dX12_servingReason_18 : decode cX12_servingReason 18 = .ok (.ifCond .le 5, 3) := by decide +kernel
theorem dX12_servingReason_21 : decode cX12_servingReason 21 = .ok (.iconst 2, 1) := by decide +kernel
theorem dX12_servingReason_22 : decode cX12_servingReason 22 = .ok (.ireturn, 1) := by decide +kernel
theorem dX12_servingReason_23 : decode cX12_servingReason 23 = .ok (.aload_n 0, 1) := by decide +kernel
theorem dX12_servingReason_24 : decode cX12_servingReason 24 = .ok (.invokevirtual 161, 3) := by decide +kernel
theorem dX12_servingReason_27 : decode cX12_servingReason 27 = .ok (.ifCond .ne 5, 3) := by decide +kernel
theorem dX12_servingReason_30 : decode cX12_servingReason 30 = .ok (.iconst 3, 1) := by decide +kernel
theorem dX12_servingReason_31 : decode cX12_servingReason 31 = .ok (.ireturn, 1) := by decide +kernel
theorem dX12_servingReason_32 : decode cX12_servingReason 32 = .ok (.aload_n 0, 1) := by decide +kernel
theorem dX12_servingReason_33 : decode cX12_servingReason 33 = .ok (.invokevirtual 164, 3) := by decide +kernel
theorem dX12_servingReason_36 : decode cX12_servingReason 36 = .ok (.aload_n 0, 1) := by decide +kernel
theorem dX12_servingReason_37 : decode cX12_servingReason 37 = .ok (.getfield 13, 3) := by decide +kernel
theorem dX12_servingReason_40 : decode cX12_servingReason 40 = .ok (.iconst 2, 1) := by decide +kernel
theorem dX12_servingReason_41 : decode cX12_servingReason 41 = .ok (.iaload, 1) := by decide +kernel
theorem dX12_servingReason_42 : decode cX12_servingReason 42 = .ok (.if_icmp .ge 5, 3) := by decide +kernel
theorem dX12_servingReason_45 : decode cX12_servingReason 45 = .ok (.iconst 4, 1) := by decide +kernel
theorem dX12_servingReason_46 : decode cX12_servingReason 46 = .ok (.ireturn, 1) := by decide +kernel
theorem dX12_servingReason_47 : decode cX12_servingReason 47 = .ok (.aload_n 0, 1) := by decide +kernel
theorem dX12_servingReason_48 : decode cX12_servingReason 48 = .ok (.invokevirtual 164, 3) := by decide +kernel
theorem dX12_servingReason_51 : decode cX12_servingReason 51 = .ok (.aload_n 0, 1) := by decide +kernel
theorem dX12_servingReason_52 : decode cX12_servingReason 52 = .ok (.getfield 13, 3) := by decide +kernel
theorem dX12_servingReason_55 : decode cX12_servingReason 55 = .ok (.iconst 3, 1) := by decide +kernel
theorem dX12_servingReason_56 : decode cX12_servingReason 56 = .ok (.iaload, 1) := by decide +kernel
theorem dX12_servingReason_57 : decode cX12_servingReason 57 = .ok (.if_icmp .le 7, 3) := by decide +kernel
theorem dX12_servingReason_60 : decode cX12_servingReason 60 = .ok (.iconst 5, 1) := by decide +kernel
theorem dX12_servingReason_61 : decode cX12_servingReason 61 = .ok (.goto 4, 3) := by decide +kernel
theorem dX12_servingReason_64 : decode cX12_servingReason 64 = .ok (.iconst 0, 1) := by decide +kernel
theorem dX12_servingReason_65 : decode cX12_servingReason 65 = .ok (.ireturn, 1) := by decide +kernel
set_option maxRecDepth 20000 in
theorem ggX12_canRedo_X12_of : GoodIn wsX12_canRedo wsX12_of := goodIn_r _ [6, 1, 19, 20, 21, 22, 23, 24, 25, 26, 27, 28, 29, 30, 31, 32, 33, 34, 35, 36, 37] rfl (by decide +kernel)
set_option maxRecDepth 20000 in
theorem gX12_canRedo_X12_of : GoodIn wsX12_canRedo (wsV RX12 95 RX12 yX12_of wsX12_of) := goodIn_app (goodIn_of _ (by decide +kernel)) ggX12_canRedo_X12_of
set_option maxRecDepth 20000 in
theorem ggX12_canRedo_X12_isTaken : GoodIn wsX12_canRedo wsX12_isTaken := goodIn_r _ [10, 2, 3, 4, 5, 6, 1, 11, 12, 13, 14, 15, 16, 17, 18, 19, 20, 21, 22, 23, 24, 25, 26, 27, 28, 29, 30, 31, 32, 33, 34, 35, 36, 37] rfl (by decide +kernel)
set_option maxRecDepth 20000 in
theorem gX12_canRedo_X12_isTaken : GoodIn wsX12_canRedo (wsV RX12 130 RX12 yX12_isTaken wsX12_isTaken) := goodIn_app (goodIn_of _ (by decide +kernel)) ggX12_canRedo_X12_isTaken
theorem dX12_canRedo_0 : decode cX12_canRedo 0 = .ok (.aload_n 0, 1) := by decide +kernel
theorem dX12_canRedo_1 : decode cX12_canRedo 1 = .ok (.iload_n 1, 1) := by decide +kernel
theorem dX12_canRedo_2 : decode cX12_canRedo 2 = .ok (.bipush 17, 2) := by decide +kernel
theorem dX12_canRedo_4 : decode cX12_canRedo 4 = .ok (.invokevirtual 95, 3) := by decide +kernel
theorem dX12_canRedo_7 : decode cX12_canRedo 7 = .ok (.iconst 2, 1) := by decide +kernel
theorem dX12_canRedo_8 : decode cX12_canRedo 8 = .ok (.if_icmp .ne 25, 3) := by decide +kernel
theorem dX12_canRedo_11 : decode cX12_canRedo 11 = .ok (.aload_n 0, 1) := by decide +kernel
theorem dX12_canRedo_12 : decode cX12_canRedo 12 = .ok (.iload_n 1, 1) := by decide +kernel
theorem dX12_canRedo_13 : decode cX12_canRedo 13 = .ok (.invokevirtual 130, 3) := by decide +kernel
theorem dX12_canRedo_16 : decode cX12_canRedo 16 = .ok (.ifCond .ne 17, 3) := by decide +kernel
theorem dX12_canRedo_19 : decode cX12_canRedo 19 = .ok (.aload_n 0, 1) := by decide +kernel
theorem dX12_canRedo_20 : decode cX12_canRedo 20 = .ok (.getfield 13, 3) := by decide +kernel
theorem dX12_canRedo_23 : decode cX12_canRedo 23 = .ok (.bipush 6, 2) := by decide +kernel
theorem dX12_canRedo_25 : decode cX12_canRedo 25 = .ok (.iaload, 1) := by decide +kernel
theorem dX12_canRedo_26 : decode cX12_canRedo 26 = .ok (.ifCond .ne 7, 3) := by decide +kernel
theorem dX12_canRedo_29 : decode cX12_canRedo 29 = .ok (.iconst 1, 1) := by decide +kernel
theorem dX12_canRedo_30 : decode cX12_canRedo 30 = .ok (.goto 4, 3) := by decide +kernel
theorem dX12_canRedo_33 : decode cX12_canRedo 33 = .ok (.iconst 0, 1) := by decide +kernel
theorem dX12_canRedo_34 : decode cX12_canRedo 34 = .ok (.ireturn, 1) := by decide +kernel
set_option maxRecDepth 20000 in
theorem ggX12_stopIt_X12_of : GoodIn wsX12_stopIt wsX12_of := goodIn_r _ [6, 1, 11, 12, 13, 14, 15, 16, 17, 18, 19, 20, 21, 22, 23, 24, 25, 26, 27, 28, 29] rfl (by decide +kernel)
set_option maxRecDepth 20000 in
theorem gX12_stopIt_X12_of : GoodIn wsX12_stopIt (wsV RX12 95 RX12 yX12_of wsX12_of) := goodIn_app (goodIn_of _ (by decide +kernel)) ggX12_stopIt_X12_of
set_option maxRecDepth 20000 in
theorem ggX12_stopIt_X12_set : GoodIn wsX12_stopIt wsX12_set := goodIn_r _ [10, 1, 11, 12, 13, 14, 15, 16, 17, 18, 19, 20, 21, 22, 23, 24, 25, 26, 27, 28, 29] rfl (by decide +kernel)
set_option maxRecDepth 20000 in
theorem gX12_stopIt_X12_set : GoodIn wsX12_stopIt (wsV RX12 126 RX12 yX12_set wsX12_set) := goodIn_app (goodIn_of _ (by decide +kernel)) ggX12_stopIt_X12_set
theorem dX12_stopIt_0 : decode cX12_stopIt 0 = .ok (.aload_n 0, 1) := by decide +kernel
theorem dX12_stopIt_1 : decode cX12_stopIt 1 = .ok (.iload_n 1, 1) := by decide +kernel
theorem dX12_stopIt_2 : decode cX12_stopIt 2 = .ok (.bipush 18, 2) := by decide +kernel
theorem dX12_stopIt_4 : decode cX12_stopIt 4 = .ok (.invokevirtual 95, 3) := by decide +kernel
theorem dX12_stopIt_7 : decode cX12_stopIt 7 = .ok (.istore_n 2, 1) := by decide +kernel
theorem dX12_stopIt_8 : decode cX12_stopIt 8 = .ok (.aload_n 0, 1) := by decide +kernel
theorem dX12_stopIt_9 : decode cX12_stopIt 9 = .ok (.iload_n 1, 1) := by decide +kernel
theorem dX12_stopIt_10 : decode cX12_stopIt 10 = .ok (.bipush 17, 2) := by decide +kernel
theorem dX12_stopIt_12 : decode cX12_stopIt 12 = .ok (.iconst 0, 1) := by decide +kernel
theorem dX12_stopIt_13 : decode cX12_stopIt 13 = .ok (.invokevirtual 126, 3) := by decide +kernel
theorem dX12_stopIt_16 : decode cX12_stopIt 16 = .ok (.aload_n 0, 1) := by decide +kernel
theorem dX12_stopIt_17 : decode cX12_stopIt 17 = .ok (.iload_n 1, 1) := by decide +kernel
theorem dX12_stopIt_18 : decode cX12_stopIt 18 = .ok (.bipush 18, 2) := by decide +kernel
theorem dX12_stopIt_20 : decode cX12_stopIt 20 = .ok (.iconst 0, 1) := by decide +kernel
theorem dX12_stopIt_21 : decode cX12_stopIt 21 = .ok (.invokevirtual 126, 3) := by decide +kernel
theorem dX12_stopIt_24 : decode cX12_stopIt 24 = .ok (.aload_n 0, 1) := by decide +kernel
theorem dX12_stopIt_25 : decode cX12_stopIt 25 = .ok (.getfield 13, 3) := by decide +kernel
theorem dX12_stopIt_28 : decode cX12_stopIt 28 = .ok (.bipush 11, 2) := by decide +kernel
theorem dX12_stopIt_30 : decode cX12_stopIt 30 = .ok (.dup2, 1) := by decide +kernel
theorem dX12_stopIt_31 : decode cX12_stopIt 31 = .ok (.iaload, 1) := by decide +kernel
theorem dX12_stopIt_32 : decode cX12_stopIt 32 = .ok (.iconst 1, 1) := by decide +kernel
theorem dX12_stopIt_33 : decode cX12_stopIt 33 = .ok (.iadd, 1) := by decide +kernel
theorem dX12_stopIt_34 : decode cX12_stopIt 34 = .ok (.iastore, 1) := by decide +kernel
theorem dX12_stopIt_35 : decode cX12_stopIt 35 = .ok (.iload_n 2, 1) := by decide +kernel
theorem dX12_stopIt_36 : decode cX12_stopIt 36 = .ok (.ireturn, 1) := by decide +kernel
set_option maxRecDepth 20000 in
theorem ggX12_redoIt_X12_of : GoodIn wsX12_redoIt wsX12_of := goodIn_r _ [5, 6, 11, 12, 13, 14, 15, 16, 17, 18, 19, 20, 21, 22, 23, 24, 25, 26, 27, 28, 29] rfl (by decide +kernel)
set_option maxRecDepth 20000 in
theorem gX12_redoIt_X12_of : GoodIn wsX12_redoIt (wsV RX12 95 RX12 yX12_of wsX12_of) := goodIn_app (goodIn_of _ (by decide +kernel)) ggX12_redoIt_X12_of
set_option maxRecDepth 20000 in
theorem ggX12_redoIt_X12_set : GoodIn wsX12_redoIt wsX12_set := goodIn_r _ [10, 6, 11, 12, 13, 14, 15, 16, 17, 18, 19, 20, 21, 22, 23, 24, 25, 26, 27, 28, 29] rfl (by decide +kernel)
set_option maxRecDepth 20000 in
theorem gX12_redoIt_X12_set : GoodIn wsX12_redoIt (wsV RX12 126 RX12 yX12_set wsX12_set) := goodIn_app (goodIn_of _ (by decide +kernel)) ggX12_redoIt_X12_set
theorem dX12_redoIt_0 : decode cX12_redoIt 0 = .ok (.aload_n 0, 1) := by decide +kernel
theorem dX12_redoIt_1 : decode cX12_redoIt 1 = .ok (.iload_n 1, 1) := by decide +kernel
theorem dX12_redoIt_2 : decode cX12_redoIt 2 = .ok (.bipush 19, 2) := by decide +kernel
theorem dX12_redoIt_4 : decode cX12_redoIt 4 = .ok (.invokevirtual 95, 3) := by decide +kernel
theorem dX12_redoIt_7 : decode cX12_redoIt 7 = .ok (.istore_n 2, 1) := by decide +kernel
theorem dX12_redoIt_8 : decode cX12_redoIt 8 = .ok (.aload_n 0, 1) := by decide +kernel
theorem dX12_redoIt_9 : decode cX12_redoIt 9 = .ok (.iload_n 1, 1) := by decide +kernel
theorem dX12_redoIt_10 : decode cX12_redoIt 10 = .ok (.bipush 17, 2) := by decide +kernel
theorem dX12_redoIt_12 : decode cX12_redoIt 12 = .ok (.iconst 0, 1) := by decide +kernel
theorem dX12_redoIt_13 : decode cX12_redoIt 13 = .ok (.invokevirtual 126, 3) := by decide +kernel
theorem dX12_redoIt_16 : decode cX12_redoIt 16 = .ok (.aload_n 0, 1) := by decide +kernel
theorem dX12_redoIt_17 : decode cX12_redoIt 17 = .ok (.iload_n 1, 1) := by decide +kernel
theorem dX12_redoIt_18 : decode cX12_redoIt 18 = .ok (.bipush 19, 2) := by decide +kernel
theorem dX12_redoIt_20 : decode cX12_redoIt 20 = .ok (.iconst 0, 1) := by decide +kernel
theorem dX12_redoIt_21 : decode cX12_redoIt 21 = .ok (.invokevirtual 126, 3) := by decide +kernel
theorem dX12_redoIt_24 : decode cX12_redoIt 24 = .ok (.iload_n 2, 1) := by decide +kernel
theorem dX12_redoIt_25 : decode cX12_redoIt 25 = .ok (.ireturn, 1) := by decide +kernel
theorem dX12_appendWord_0 : decode cX12_appendWord 0 = .ok (.bipush 24, 2) := by decide +kernel
theorem dX12_appendWord_2 : decode cX12_appendWord 2 = .ok (.istore_n 2, 1) := by decide +kernel
theorem dX12_appendWord_3 : decode cX12_appendWord 3 = .ok (.iload_n 2, 1) := by decide +kernel
theorem dX12_appendWord_4 : decode cX12_appendWord 4 = .ok (.ifCond .lt 35, 3) := by decide +kernel
theorem dX12_appendWord_7 : decode cX12_appendWord 7 = .ok (.aload_n 0, 1) := by decide +kernel
theorem dX12_appendWord_8 : decode cX12_appendWord 8 = .ok (.getfield 24, 3) := by decide +kernel
theorem dX12_appendWord_11 : decode cX12_appendWord 11 = .ok (.aload_n 0, 1) := by decide +kernel
theorem dX12_appendWord_12 : decode cX12_appendWord 12 = .ok (.getfield 27, 3) := by decide +kernel
theorem dX12_appendWord_15 : decode cX12_appendWord 15 = .ok (.iload_n 1, 1) := by decide +kernel
theorem dX12_appendWord_16 : decode cX12_appendWord 16 = .ok (.iload_n 2, 1) := by decide +kernel
theorem dX12_appendWord_17 : decode cX12_appendWord 17 = .ok (.ishr, 1) := by decide +kernel
theorem dX12_appendWord_18 : decode cX12_appendWord 18 = .ok (.sipush 255, 3) := by decide +kernel
theorem dX12_appendWord_21 : decode cX12_appendWord 21 = .ok (.iand, 1) := by decide +kernel
theorem dX12_appendWord_22 : decode cX12_appendWord 22 = .ok (.iastore, 1) := by decide +kernel
theorem dX12_appendWord_23 : decode cX12_appendWord 23 = .ok (.aload_n 0, 1) := by decide +kernel
theorem dX12_appendWord_24 : decode cX12_appendWord 24 = .ok (.dup, 1) := by decide +kernel
theorem dX12_appendWord_25 : decode cX12_appendWord 25 = .ok (.getfield 27, 3) := by decide +kernel
theorem dX12_appendWord_28 : decode cX12_appendWord 28 = .ok (.iconst 1, 1) := by decide +kernel
theorem dX12_appendWord_29 : decode cX12_appendWord 29 = .ok (.iadd, 1) := by decide +kernel
theorem dX12_appendWord_30 : decode cX12_appendWord 30 = .ok (.putfield 27, 3) := by decide +kernel
theorem dX12_appendWord_33 : decode cX12_appendWord 33 = .ok (.iinc 2 (-8), 3) := by decide +kernel
theorem dX12_appendWord_36 : decode cX12_appendWord 36 = .ok (.goto (-33), 3) := by decide +kernel
theorem dX12_appendWord_39 : decode cX12_appendWord 39 = .ok (.return_, 1) := by decide +kernel
set_option maxRecDepth 20000 in
theorem ggX12_append_X12_fails : GoodIn wsX12_append wsX12_fails := goodIn_r _ [6, 7, 13, 14, 15, 16, 17, 18, 19, 20, 21, 22, 23, 24, 25, 26, 27, 28, 29, 30, 31] rfl (by decide +kernel)
set_option maxRecDepth 20000 in
theorem gX12_append_X12_fails : GoodIn wsX12_append (wsV RX12 167 RX12 yX12_fails wsX12_fails) := goodIn_app (goodIn_of _ (by decide +kernel)) ggX12_append_X12_fails
set_option maxRecDepth 20000 in
theorem ggX12_append_X12_appendWord : GoodIn wsX12_append wsX12_appendWord := goodIn_r _ [11, 12, 1, 13, 14, 15, 16, 17, 18, 19, 20, 21, 22, 23, 24, 25, 26, 27, 28, 29, 30, 31] rfl (by decide +kernel)
set_option maxRecDepth 20000 in
theorem gX12_append_X12_appendWord : GoodIn wsX12_append (wsV RX12 171 RX12 yX12_appendWord wsX12_appendWord) := goodIn_app (goodIn_of _ (by decide +kernel)) ggX12_append_X12_appendWord
theorem dX12_append_0 : decode cX12_append 0 = .ok (.aload_n 0, 1) := by decide +kernel
theorem dX12_append_1 : decode cX12_append 1 = .ok (.aload_n 0, 1) := by decide +kernel
theorem dX12_append_2 : decode cX12_append 2 = .ok (.getfield 27, 3) := by decide +kernel
theorem dX12_append_5 : decode cX12_append 5 = .ok (.bipush 20, 2) := by decide +kernel
theorem dX12_append_7 : decode cX12_append 7 = .ok (.iadd, 1) := by decide +kernel
theorem dX12_append_8 : decode cX12_append 8 = .ok (.sipush 700, 3) := by decide +kernel
theorem dX12_append_11 : decode cX12_append 11 = .ok (.if_icmp .le 7, 3) := by decide +kernel
theorem dX12_append_14 : decode cX12_append 14 = .ok (.iconst 1, 1) := by decide +kernel
theorem dX12_append_15 : decode cX12_append 15 = .ok (.goto 4, 3) := by decide +kernel
theorem dX12_append_18 : decode cX12_append 18 = .ok (.iconst 0, 1) := by decide +kernel
theorem dX12_append_19 : decode cX12_append 19 = .ok (.iconst 0, 1) := by decide +kernel
theorem dX12_append_20 : decode cX12_append 20 = .ok (.iconst 0, 1) := by decide +kernel
theorem dX12_append_21 : decode cX12_append 21 = .ok (.invokevirtual 167, 3) := by decide +kernel
theorem dX12_append_24 : decode cX12_append 24 = .ok (.ifCond .eq 5, 3) := by decide +kernel
theorem dX12_append_27 : decode cX12_append 27 = .ok (.iconst 0, 1) := by decide +kernel
theorem dX12_append_28 : decode cX12_append 28 = .ok (.ireturn, 1) := by decide +kernel
theorem dX12_append_29 : decode cX12_append 29 = .ok (.aload_n 0, 1) := by decide +kernel
theorem dX12_append_30 : decode cX12_append 30 = .ok (.iload_n 1, 1) := by decide +kernel
