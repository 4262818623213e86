theorem dX3_readySteps_80 : decode cX3_readySteps 80 = .ok (.iinc 3 1, 3) := by decide +kernel
theorem dX3_readySteps_83 : decode cX3_readySteps 83 = .ok (.goto (-53), 3) := by decide +kernel
theorem dX3_readySteps_86 : decode cX3_readySteps 86 = .ok (.iload_n 1, 1) := by decide +kernel
theorem dX3_readySteps_87 : decode cX3_readySteps 87 = .ok (.ireturn, 1) := by decide +kernel
theorem dX3_isContinued_0 : decode cX3_isContinued 0 = .ok (.aload_n 0, 1) := by decide +kernel
theorem dX3_isContinued_1 : decode cX3_isContinued 1 = .ok (.getfield 28, 3) := by decide +kernel
theorem dX3_isContinued_4 : decode cX3_isContinued 4 = .ok (.getfield 141, 3) := by decide +kernel
theorem dX3_isContinued_7 : decode cX3_isContinued 7 = .ok (.iload_n 1, 1) := by decide +kernel
theorem dX3_isContinued_8 : decode cX3_isContinued 8 = .ok (.iaload, 1) := by decide +kernel
theorem dX3_isContinued_9 : decode cX3_isContinued 9 = .ok (.aload_n 0, 1) := by decide +kernel
theorem dX3_isContinued_10 : decode cX3_isContinued 10 = .ok (.getfield 12, 3) := by decide +kernel
theorem dX3_isContinued_13 : decode cX3_isContinued 13 = .ok (.getfield 82, 3) := by decide +kernel
theorem dX3_isContinued_16 : decode cX3_isContinued 16 = .ok (.aload_n 0, 1) := by decide +kernel
theorem dX3_isContinued_17 : decode cX3_isContinued 17 = .ok (.getfield 12, 3) := by decide +kernel
theorem dX3_isContinued_20 : decode cX3_isContinued 20 = .ok (.getfield 47, 3) := by decide +kernel
theorem dX3_isContinued_23 : decode cX3_isContinued 23 = .ok (.ior, 1) := by decide +kernel
theorem dX3_isContinued_24 : decode cX3_isContinued 24 = .ok (.iand, 1) := by decide +kernel
theorem dX3_isContinued_25 : decode cX3_isContinued 25 = .ok (.ifCond .eq 7, 3) := by decide +kernel
theorem dX3_isContinued_28 : decode cX3_isContinued 28 = .ok (.iconst 1, 1) := by decide +kernel
theorem dX3_isContinued_29 : decode cX3_isContinued 29 = .ok (.goto 4, 3) := by decide +kernel
theorem dX3_isContinued_32 : decode cX3_isContinued 32 = .ok (.iconst 0, 1) := by decide +kernel
theorem dX3_isContinued_33 : decode cX3_isContinued 33 = .ok (.ireturn, 1) := by decide +kernel
set_option maxRecDepth 20000 in
theorem ggX3_isRedoable_X11_contains : GoodIn wsX3_isRedoable wsX11_contains := goodIn_r _ [4] rfl (by decide +kernel)
set_option maxRecDepth 20000 in
theorem gX3_isRedoable_X11_contains_n100 : GoodIn wsX3_isRedoable (wsX11_contains) := ggX3_isRedoable_X11_contains
set_option maxRecDepth 20000 in
theorem ggX3_isRedoable_X3_isContinued : GoodIn wsX3_isRedoable wsX3_isContinued := goodIn_r _ [9, 10, 1, 11, 12, 13, 14, 15, 31, 32, 33, 34, 35, 36, 37, 38, 39, 40, 41, 42, 43, 44, 45, 46, 47, 16, 17, 18, 19, 20, 21, 22, 23, 24, 25, 26, 27, 28, 29, 30] rfl (by decide +kernel)
set_option maxRecDepth 20000 in
theorem gX3_isRedoable_X3_isContinued : GoodIn wsX3_isRedoable (wsV RX3 113 RX3 yX3_isContinued wsX3_isContinued) := goodIn_app (goodIn_of _ (by decide +kernel)) ggX3_isRedoable_X3_isContinued
theorem dX3_isRedoable_0 : decode cX3_isRedoable 0 = .ok (.aload_n 0, 1) := by decide +kernel
theorem dX3_isRedoable_1 : decode cX3_isRedoable 1 = .ok (.getfield 12, 3) := by decide +kernel
theorem dX3_isRedoable_4 : decode cX3_isRedoable 4 = .ok (.getfield 47, 3) := by decide +kernel
theorem dX3_isRedoable_7 : decode cX3_isRedoable 7 = .ok (.iload_n 1, 1) := by decide +kernel
theorem dX3_isRedoable_8 : decode cX3_isRedoable 8 = .ok (.invokestatic 100, 3) := by decide +kernel
theorem dX3_isRedoable_11 : decode cX3_isRedoable 11 = .ok (.ifCond .eq 25, 3) := by decide +kernel
theorem dX3_isRedoable_14 : decode cX3_isRedoable 14 = .ok (.aload_n 0, 1) := by decide +kernel
theorem dX3_isRedoable_15 : decode cX3_isRedoable 15 = .ok (.iload_n 1, 1) := by decide +kernel
theorem dX3_isRedoable_16 : decode cX3_isRedoable 16 = .ok (.invokevirtual 113, 3) := by decide +kernel
theorem dX3_isRedoable_19 : decode cX3_isRedoable 19 = .ok (.ifCond .ne 17, 3) := by decide +kernel
theorem dX3_isRedoable_22 : decode cX3_isRedoable 22 = .ok (.aload_n 0, 1) := by decide +kernel
theorem dX3_isRedoable_23 : decode cX3_isRedoable 23 = .ok (.getfield 12, 3) := by decide +kernel
theorem dX3_isRedoable_26 : decode cX3_isRedoable 26 = .ok (.getfield 59, 3) := by decide +kernel
theorem dX3_isRedoable_29 : decode cX3_isRedoable 29 = .ok (.ifCond .ne 7, 3) := by decide +kernel
theorem dX3_isRedoable_32 : decode cX3_isRedoable 32 = .ok (.iconst 1, 1) := by decide +kernel
theorem dX3_isRedoable_33 : decode cX3_isRedoable 33 = .ok (.goto 4, 3) := by decide +kernel
theorem dX3_isRedoable_36 : decode cX3_isRedoable 36 = .ok (.iconst 0, 1) := by decide +kernel
theorem dX3_isRedoable_37 : decode cX3_isRedoable 37 = .ok (.ireturn, 1) := by decide +kernel
set_option maxRecDepth 20000 in
theorem ggX3_hasFreeCook_X11_contains : GoodIn wsX3_hasFreeCook wsX11_contains := goodIn_r _ [5] rfl (by decide +kernel)
set_option maxRecDepth 20000 in
theorem gX3_hasFreeCook_X11_contains_n100 : GoodIn wsX3_hasFreeCook (wsX11_contains) := ggX3_hasFreeCook_X11_contains
set_option maxRecDepth 20000 in
theorem ggX3_hasFreeCook_J6_bitCount_0f7a4 : GoodIn wsX3_hasFreeCook wsJ6_bitCount_0f7a4 := goodIn_r _ [9, 10, 11, 12] rfl (by decide +kernel)
set_option maxRecDepth 20000 in
theorem gX3_hasFreeCook_J6_bitCount_0f7a4 : GoodIn wsX3_hasFreeCook (va_wsS RX3 76 yJ6_bitCount_0f7a4 wsJ6_bitCount_0f7a4) := goodIn_app (goodIn_of _ (by decide +kernel)) ggX3_hasFreeCook_J6_bitCount_0f7a4
theorem dX3_hasFreeCook_0 : decode cX3_hasFreeCook 0 = .ok (.aload_n 0, 1) := by decide +kernel
theorem dX3_hasFreeCook_1 : decode cX3_hasFreeCook 1 = .ok (.getfield 28, 3) := by decide +kernel
theorem dX3_hasFreeCook_4 : decode cX3_hasFreeCook 4 = .ok (.getfield 88, 3) := by decide +kernel
theorem dX3_hasFreeCook_7 : decode cX3_hasFreeCook 7 = .ok (.iload_n 1, 1) := by decide +kernel
theorem dX3_hasFreeCook_8 : decode cX3_hasFreeCook 8 = .ok (.invokestatic 100, 3) := by decide +kernel
theorem dX3_hasFreeCook_11 : decode cX3_hasFreeCook 11 = .ok (.ifCond .ne 33, 3) := by decide +kernel
theorem dX3_hasFreeCook_14 : decode cX3_hasFreeCook 14 = .ok (.aload_n 0, 1) := by decide +kernel
theorem dX3_hasFreeCook_15 : decode cX3_hasFreeCook 15 = .ok (.getfield 12, 3) := by decide +kernel
theorem dX3_hasFreeCook_18 : decode cX3_hasFreeCook 18 = .ok (.getfield 82, 3) := by decide +kernel
theorem dX3_hasFreeCook_21 : decode cX3_hasFreeCook 21 = .ok (.aload_n 0, 1) := by decide +kernel
theorem dX3_hasFreeCook_22 : decode cX3_hasFreeCook 22 = .ok (.getfield 28, 3) := by decide +kernel
theorem dX3_hasFreeCook_25 : decode cX3_hasFreeCook 25 = .ok (.getfield 88, 3) := by decide +kernel
theorem dX3_hasFreeCook_28 : decode cX3_hasFreeCook 28 = .ok (.iconst (-1), 1) := by decide +kernel
theorem dX3_hasFreeCook_29 : decode cX3_hasFreeCook 29 = .ok (.ixor, 1) := by decide +kernel
theorem dX3_hasFreeCook_30 : decode cX3_hasFreeCook 30 = .ok (.iand, 1) := by decide +kernel
theorem dX3_hasFreeCook_31 : decode cX3_hasFreeCook 31 = .ok (.invokestatic 76, 3) := by decide +kernel
theorem dX3_hasFreeCook_34 : decode cX3_hasFreeCook 34 = .ok (.aload_n 0, 1) := by decide +kernel
theorem dX3_hasFreeCook_35 : decode cX3_hasFreeCook 35 = .ok (.getfield 12, 3) := by decide +kernel
theorem dX3_hasFreeCook_38 : decode cX3_hasFreeCook 38 = .ok (.getfield 144, 3) := by decide +kernel
theorem dX3_hasFreeCook_41 : decode cX3_hasFreeCook 41 = .ok (.if_icmp .ge 7, 3) := by decide +kernel
theorem dX3_hasFreeCook_44 : decode cX3_hasFreeCook 44 = .ok (.iconst 1, 1) := by decide +kernel
theorem dX3_hasFreeCook_45 : decode cX3_hasFreeCook 45 = .ok (.goto 4, 3) := by decide +kernel
theorem dX3_hasFreeCook_48 : decode cX3_hasFreeCook 48 = .ok (.iconst 0, 1) := by decide +kernel
theorem dX3_hasFreeCook_49 : decode cX3_hasFreeCook 49 = .ok (.ireturn, 1) := by decide +kernel
set_option maxRecDepth 20000 in
theorem ggX3_hasFreePan_X3_occupants : GoodIn wsX3_hasFreePan wsX3_occupants := goodIn_r _ [6, 1, 7, 15, 16, 17, 18, 19, 20, 21, 22, 23, 24, 25, 26, 27, 28, 29, 30, 31, 32, 33, 34, 35, 36, 37, 38, 39, 40, 41, 42, 43, 44, 45, 46, 47, 48, 49, 50, 51, 52, 53, 54] rfl (by decide +kernel)
set_option maxRecDepth 20000 in
theorem gX3_hasFreePan_X3_occupants : GoodIn wsX3_hasFreePan (wsV RX3 150 RX3 yX3_occupants wsX3_occupants) := goodIn_app (goodIn_of _ (by decide +kernel)) ggX3_hasFreePan_X3_occupants
set_option maxRecDepth 20000 in
theorem ggX3_hasFreePan_J6_bitCount_0f7a4 : GoodIn wsX3_hasFreePan wsJ6_bitCount_0f7a4 := goodIn_r _ [11, 12, 13, 14] rfl (by decide +kernel)
set_option maxRecDepth 20000 in
theorem gX3_hasFreePan_J6_bitCount_0f7a4 : GoodIn wsX3_hasFreePan (va_wsS RX3 76 yJ6_bitCount_0f7a4 wsJ6_bitCount_0f7a4) := goodIn_app (goodIn_of _ (by decide +kernel)) ggX3_hasFreePan_J6_bitCount_0f7a4
theorem dX3_hasFreePan_0 : decode cX3_hasFreePan 0 = .ok (.aload_n 0, 1) := by decide +kernel
theorem dX3_hasFreePan_1 : decode cX3_hasFreePan 1 = .ok (.getfield 28, 3) := by decide +kernel
theorem dX3_hasFreePan_4 : decode cX3_hasFreePan 4 = .ok (.getfield 147, 3) := by decide +kernel
theorem dX3_hasFreePan_7 : decode cX3_hasFreePan 7 = .ok (.iload_n 1, 1) := by decide +kernel
theorem dX3_hasFreePan_8 : decode cX3_hasFreePan 8 = .ok (.iaload, 1) := by decide +kernel
theorem dX3_hasFreePan_9 : decode cX3_hasFreePan 9 = .ok (.istore_n 2, 1) := by decide +kernel
theorem dX3_hasFreePan_10 : decode cX3_hasFreePan 10 = .ok (.iload_n 2, 1) := by decide +kernel
theorem dX3_hasFreePan_11 : decode cX3_hasFreePan 11 = .ok (.iconst (-1), 1) := by decide +kernel
theorem dX3_hasFreePan_12 : decode cX3_hasFreePan 12 = .ok (.if_icmp .eq 23, 3) := by decide +kernel
theorem dX3_hasFreePan_15 : decode cX3_hasFreePan 15 = .ok (.aload_n 0, 1) := by decide +kernel
theorem dX3_hasFreePan_16 : decode cX3_hasFreePan 16 = .ok (.iload_n 2, 1) := by decide +kernel
theorem dX3_hasFreePan_17 : decode cX3_hasFreePan 17 = .ok (.invokevirtual 150, 3) := by decide +kernel
theorem dX3_hasFreePan_20 : decode cX3_hasFreePan 20 = .ok (.invokestatic 76, 3) := by decide +kernel
theorem dX3_hasFreePan_23 : decode cX3_hasFreePan 23 = .ok (.aload_n 0, 1) := by decide +kernel
theorem dX3_hasFreePan_24 : decode cX3_hasFreePan 24 = .ok (.getfield 28, 3) := by decide +kernel
theorem dX3_hasFreePan_27 : decode cX3_hasFreePan 27 = .ok (.getfield 153, 3) := by decide +kernel
theorem dX3_hasFreePan_30 : decode cX3_hasFreePan 30 = .ok (.iload_n 2, 1) := by decide +kernel
theorem dX3_hasFreePan_31 : decode cX3_hasFreePan 31 = .ok (.iaload, 1) := by decide +kernel
theorem dX3_hasFreePan_32 : decode cX3_hasFreePan 32 = .ok (.if_icmp .ge 7, 3) := by decide +kernel
theorem dX3_hasFreePan_35 : decode cX3_hasFreePan 35 = .ok (.iconst 1, 1) := by decide +kernel
theorem dX3_hasFreePan_36 : decode cX3_hasFreePan 36 = .ok (.goto 4, 3) := by decide +kernel
theorem dX3_hasFreePan_39 : decode cX3_hasFreePan 39 = .ok (.iconst 0, 1) := by decide +kernel
theorem dX3_hasFreePan_40 : decode cX3_hasFreePan 40 = .ok (.ireturn, 1) := by decide +kernel
theorem dX3_occupants_0 : decode cX3_occupants 0 = .ok (.aload_n 0, 1) := by decide +kernel
theorem dX3_occupants_1 : decode cX3_occupants 1 = .ok (.getfield 28, 3) := by decide +kernel
theorem dX3_occupants_4 : decode cX3_occupants 4 = .ok (.getfield 156, 3) := by decide +kernel
theorem dX3_occupants_7 : decode cX3_occupants 7 = .ok (.iload_n 1, 1) := by decide +kernel
theorem dX3_occupants_8 : decode cX3_occupants 8 = .ok (.iaload, 1) := by decide +kernel
theorem dX3_occupants_9 : decode cX3_occupants 9 = .ok (.istore_n 2, 1) := by decide +kernel
theorem dX3_occupants_10 : decode cX3_occupants 10 = .ok (.iload_n 2, 1) := by decide +kernel
theorem dX3_occupants_11 : decode cX3_occupants 11 = .ok (.aload_n 0, 1) := by decide +kernel
theorem dX3_occupants_12 : decode cX3_occupants 12 = .ok (.getfield 12, 3) := by decide +kernel
theorem dX3_occupants_15 : decode cX3_occupants 15 = .ok (.getfield 82, 3) := by decide +kernel
theorem dX3_occupants_18 : decode cX3_occupants 18 = .ok (.iand, 1) := by decide +kernel
theorem dX3_occupants_19 : decode cX3_occupants 19 = .ok (.istore_n 3, 1) := by decide +kernel
theorem dX3_occupants_20 : decode cX3_occupants 20 = .ok (.aload_n 0, 1) := by decide +kernel
theorem dX3_occupants_21 : decode cX3_occupants 21 = .ok (.getfield 12, 3) := by decide +kernel
theorem dX3_occupants_24 : decode cX3_occupants 24 = .ok (.getfield 82, 3) := by decide +kernel
theorem dX3_occupants_27 : decode cX3_occupants 27 = .ok (.aload_n 0, 1) := by decide +kernel
theorem dX3_occupants_28 : decode cX3_occupants 28 = .ok (.getfield 12, 3) := by decide +kernel
theorem dX3_occupants_31 : decode cX3_occupants 31 = .ok (.getfield 47, 3) := by decide +kernel
theorem dX3_occupants_34 : decode cX3_occupants 34 = .ok (.ior, 1) := by decide +kernel
theorem dX3_occupants_35 : decode cX3_occupants 35 = .ok (.istore 4, 2) := by decide +kernel
theorem dX3_occupants_37 : decode cX3_occupants 37 = .ok (.iconst 0, 1) := by decide +kernel
theorem dX3_occupants_38 : decode cX3_occupants 38 = .ok (.istore 5, 2) := by decide +kernel
theorem dX3_occupants_40 : decode cX3_occupants 40 = .ok (.iload 5, 2) := by decide +kernel
theorem dX3_occupants_42 : decode cX3_occupants 42 = .ok (.aload_n 0, 1) := by decide +kernel
theorem dX3_occupants_43 : decode cX3_occupants 43 = .ok (.getfield 28, 3) := by decide +kernel
theorem dX3_occupants_46 : decode cX3_occupants 46 = .ok (.getfield 91, 3) := by decide +kernel
theorem dX3_occupants_49 : decode cX3_occupants 49 = .ok (.getfield 95, 3) := by decide +kernel
theorem dX3_occupants_52 : decode cX3_occupants 52 = .ok (.if_icmp .ge 53, 3) := by decide +kernel
theorem dX3_occupants_55 : decode cX3_occupants 55 = .ok (.iconst 1, 1) := by decide +kernel
theorem dX3_occupants_56 : decode cX3_occupants 56 = .ok (.iload 5, 2) := by decide +kernel
theorem dX3_occupants_58 : decode cX3_occupants 58 = .ok (.ishl, 1) := by decide +kernel
theorem dX3_occupants_59 : decode cX3_occupants 59 = .ok (.istore 6, 2) := by decide +kernel
theorem dX3_occupants_61 : decode cX3_occupants 61 = .ok (.iload_n 2, 1) := by decide +kernel
theorem dX3_occupants_62 : decode cX3_occupants 62 = .ok (.aload_n 0, 1) := by decide +kernel
theorem dX3_occupants_63 : decode cX3_occupants 63 = .ok (.getfield 12, 3) := by decide +kernel
theorem dX3_occupants_66 : decode cX3_occupants 66 = .ok (.getfield 47, 3) := by decide +kernel
theorem dX3_occupants_69 : decode cX3_occupants 69 = .ok (.iand, 1) := by decide +kernel
theorem dX3_occupants_70 : decode cX3_occupants 70 = .ok (.iload 6, 2) := by decide +kernel
theorem dX3_occupants_72 : decode cX3_occupants 72 = .ok (.iand, 1) := by decide +kernel
theorem dX3_occupants_73 : decode cX3_occupants 73 = .ok (.ifCond .eq 26, 3) := by decide +kernel
theorem dX3_occupants_76 : decode cX3_occupants 76 = .ok (.aload_n 0, 1) := by decide +kernel
theorem dX3_occupants_77 : decode cX3_occupants 77 = .ok (.getfield 28, 3) := by decide +kernel
theorem dX3_occupants_80 : decode cX3_occupants 80 = .ok (.getfield 141, 3) := by decide +kernel
theorem dX3_occupants_83 : decode cX3_occupants 83 = .ok (.iload 5, 2) := by decide +kernel
theorem dX3_occupants_85 : decode cX3_occupants 85 = .ok (.iaload, 1) := by decide +kernel
theorem dX3_occupants_86 : decode cX3_occupants 86 = .ok (.iload 4, 2) := by decide +kernel
theorem dX3_occupants_88 : decode cX3_occupants 88 = .ok (.iconst (-1), 1) := by decide +kernel
theorem dX3_occupants_89 : decode cX3_occupants 89 = .ok (.ixor, 1) := by decide +kernel
theorem dX3_occupants_90 : decode cX3_occupants 90 = .ok (.iand, 1) := by decide +kernel
theorem dX3_occupants_91 : decode cX3_occupants 91 = .ok (.ifCond .eq 8, 3) := by decide +kernel
theorem dX3_occupants_94 : decode cX3_occupants 94 = .ok (.iload_n 3, 1) := by decide +kernel
theorem dX3_occupants_95 : decode cX3_occupants 95 = .ok (.iload 6, 2) := by decide +kernel
theorem dX3_occupants_97 : decode cX3_occupants 97 = .ok (.ior, 1) := by decide +kernel
theorem dX3_occupants_98 : decode cX3_occupants 98 = .ok (.istore_n 3, 1) := by decide +kernel
theorem dX3_occupants_99 : decode cX3_occupants 99 = .ok (.iinc 5 1, 3) := by decide +kernel
theorem dX3_occupants_102 : decode cX3_occupants 102 = .ok (.goto (-62), 3) := by decide +kernel
theorem dX3_occupants_105 : decode cX3_occupants 105 = .ok (.iload_n 3, 1) := by decide +kernel
theorem dX3_occupants_106 : decode cX3_occupants 106 = .ok (.ireturn, 1) := by decide +kernel
set_option maxRecDepth 20000 in
theorem ggX3_rank_X3_longestOf : GoodIn wsX3_rank wsX3_longestOf := goodIn_r _ [9, 1, 2, 10, 11, 12, 13, 14, 15, 16, 17, 18, 19, 20, 21, 22, 23, 24, 25, 26, 27, 28, 29, 30, 31, 32, 33, 34, 35, 36, 37] rfl (by decide +kernel)
set_option maxRecDepth 20000 in
theorem gX3_rank_X3_longestOf : GoodIn wsX3_rank (wsV RX3 159 RX3 yX3_longestOf wsX3_longestOf) := goodIn_app (goodIn_of _ (by decide +kernel)) ggX3_rank_X3_longestOf
theorem dX3_rank_0 : decode cX3_rank 0 = .ok (.aload_n 0, 1) := by decide +kernel
theorem dX3_rank_1 : decode cX3_rank 1 = .ok (.getfield 28, 3) := by decide +kernel
theorem dX3_rank_4 : decode cX3_rank 4 = .ok (.getfield 91, 3) := by decide +kernel
theorem dX3_rank_7 : decode cX3_rank 7 = .ok (.getfield 95, 3) := by decide +kernel
theorem dX3_rank_10 : decode cX3_rank 10 = .ok (.iconst 1, 1) := by decide +kernel
theorem dX3_rank_11 : decode cX3_rank 11 = .ok (.isub, 1) := by decide +kernel
theorem dX3_rank_12 : decode cX3_rank 12 = .ok (.istore_n 1, 1) := by decide +kernel
theorem dX3_rank_13 : decode cX3_rank 13 = .ok (.iload_n 1, 1) := by decide +kernel
theorem dX3_rank_14 : decode cX3_rank 14 = .ok (.ifCond .lt 54, 3) := by decide +kernel
theorem dX3_rank_17 : decode cX3_rank 17 = .ok (.aload_n 0, 1) := by decide +kernel
theorem dX3_rank_18 : decode cX3_rank 18 = .ok (.aload_n 0, 1) := by decide +kernel
theorem dX3_rank_19 : decode cX3_rank 19 = .ok (.getfield 28, 3) := by decide +kernel
theorem dX3_rank_22 : decode cX3_rank 22 = .ok (.getfield 141, 3) := by decide +kernel
theorem dX3_rank_25 : decode cX3_rank 25 = .ok (.iload_n 1, 1) := by decide +kernel
theorem dX3_rank_26 : decode cX3_rank 26 = .ok (.iaload, 1) := by decide +kernel
theorem dX3_rank_27 : decode cX3_rank 27 = .ok (.invokevirtual 159, 3) := by decide +kernel
theorem dX3_rank_30 : decode cX3_rank 30 = .ok (.istore_n 2, 1) := by decide +kernel
theorem dX3_rank_31 : decode cX3_rank 31 = .ok (.aload_n 0, 1) := by decide +kernel
theorem dX3_rank_32 : decode cX3_rank 32 = .ok (.getfield 18, 3) := by decide +kernel
theorem dX3_rank_35 : decode cX3_rank 35 = .ok (.iload_n 1, 1) := by decide +kernel
theorem dX3_rank_36 : decode cX3_rank 36 = .ok (.aload_n 0, 1) := by decide +kernel
theorem dX3_rank_37 : decode cX3_rank 37 = .ok (.getfield 12, 3) := by decide +kernel
theorem dX3_rank_40 : decode cX3_rank 40 = .ok (.getfield 162, 3) := by decide +kernel
theorem dX3_rank_43 : decode cX3_rank 43 = .ok (.iload_n 1, 1) := by decide +kernel
theorem dX3_rank_44 : decode cX3_rank 44 = .ok (.iaload, 1) := by decide +kernel
theorem dX3_rank_45 : decode cX3_rank 45 = .ok (.iload_n 2, 1) := by decide +kernel
theorem dX3_rank_46 : decode cX3_rank 46 = .ok (.iconst (-1), 1) := by decide +kernel
theorem dX3_rank_47 : decode cX3_rank 47 = .ok (.if_icmp .ne 7, 3) := by decide +kernel
theorem dX3_rank_50 : decode cX3_rank 50 = .ok (.iconst 0, 1) := by decide +kernel
theorem dX3_rank_51 : decode cX3_rank 51 = .ok (.goto 9, 3) := by decide +kernel
theorem dX3_rank_54 : decode cX3_rank 54 = .ok (.aload_n 0, 1) := by decide +kernel
theorem dX3_rank_55 : decode cX3_rank 55 = .ok (.getfield 18, 3) := by decide +kernel
theorem dX3_rank_58 : decode cX3_rank 58 = .ok (.iload_n 2, 1) := by decide +kernel
theorem dX3_rank_59 : decode cX3_rank 59 = .ok (.iaload, 1) := by decide +kernel
theorem dX3_rank_60 : decode cX3_rank 60 = .ok (.iadd, 1) := by decide +kernel
theorem dX3_rank_61 : decode cX3_rank 61 = .ok (.iastore, 1) := by decide +kernel
theorem dX3_rank_62 : decode cX3_rank 62 = .ok (.iinc 1 (-1), 3) := by decide +kernel
theorem dX3_rank_65 : decode cX3_rank 65 = .ok (.goto (-52), 3) := by decide +kernel
theorem dX3_rank_68 : decode cX3_rank 68 = .ok (.iconst 0, 1) := by decide +kernel
theorem dX3_rank_69 : decode cX3_rank 69 = .ok (.istore_n 1, 1) := by decide +kernel
theorem dX3_rank_70 : decode cX3_rank 70 = .ok (.iload_n 1, 1) := by decide +kernel
theorem dX3_rank_71 : decode cX3_rank 71 = .ok (.aload_n 0, 1) := by decide +kernel
theorem dX3_rank_72 : decode cX3_rank 72 = .ok (.getfield 28, 3) := by decide +kernel
theorem dX3_rank_75 : decode cX3_rank 75 = .ok (.getfield 91, 3) := by decide +kernel
theorem dX3_rank_78 : decode cX3_rank 78 = .ok (.getfield 95, 3) := by decide +kernel
theorem dX3_rank_81 : decode cX3_rank 81 = .ok (.if_icmp .ge 64, 3) := by decide +kernel
theorem dX3_rank_84 : decode cX3_rank 84 = .ok (.iload_n 1, 1) := by decide +kernel
theorem dX3_rank_85 : decode cX3_rank 85 = .ok (.istore_n 2, 1) := by decide +kernel
theorem dX3_rank_86 : decode cX3_rank 86 = .ok (.iload_n 2, 1) := by decide +kernel
theorem dX3_rank_87 : decode cX3_rank 87 = .ok (.ifCond .le 45, 3) := by decide +kernel
theorem dX3_rank_90 : decode cX3_rank 90 = .ok (.aload_n 0, 1) := by decide +kernel
theorem dX3_rank_91 : decode cX3_rank 91 = .ok (.getfield 18, 3) := by decide +kernel
theorem dX3_rank_94 : decode cX3_rank 94 = .ok (.aload_n 0, 1) := by decide +kernel
theorem dX3_rank_95 : decode cX3_rank 95 = .ok (.getfield 22, 3) := by decide +kernel
theorem dX3_rank_98 : decode cX3_rank 98 = .ok (.iload_n 2, 1) := by decide +kernel
theorem dX3_rank_99 : decode cX3_rank 99 = .ok (.iconst 1, 1) := by decide +kernel
theorem dX3_rank_100 : decode cX3_rank 100 = .ok (.isub, 1) := by decide +kernel
theorem dX3_rank_101 : decode cX3_rank 101 = .ok (.iaload, 1) := by decide +kernel
theorem dX3_rank_102 : decode cX3_rank 102 = .ok (.iaload, 1) := by decide +kernel
theorem dX3_rank_103 : decode cX3_rank 103 = .ok (.aload_n 0, 1) := by decide +kernel
theorem dX3_rank_104 : decode cX3_rank 104 = .ok (.getfield 18, 3) := by decide +kernel
theorem dX3_rank_107 : decode cX3_rank 107 = .ok (.iload_n 1, 1) := by decide +kernel
theorem dX3_rank_108 : decode cX3_rank 108 = .ok (.iaload, 1) := by decide +kernel
theorem dX3_rank_109 : decode cX3_rank 109 = .ok (.if_icmp .ge 23, 3) := by decide +kernel
theorem dX3_rank_112 : decode cX3_rank 112 = .ok (.aload_n 0, 1) := by decide +kernel
theorem dX3_rank_113 : decode cX3_rank 113 = .ok (.getfield 22, 3) := by decide +kernel
theorem dX3_rank_116 : decode cX3_rank 116 = .ok (.iload_n 2, 1) := by decide +kernel
theorem dX3_rank_117 : decode cX3_rank 117 = .ok (.aload_n 0, 1) := by decide +kernel
theorem dX3_rank_118 : decode cX3_rank 118 = .ok (.getfield 22, 3) := by decide +kernel
theorem dX3_rank_121 : decode cX3_rank 121 = .ok (.iload_n 2, 1) := by decide +kernel
theorem dX3_rank_122 : decode cX3_rank 122 = .ok (.iconst 1, 1) := by decide +kernel
theorem dX3_rank_123 : decode cX3_rank 123 = .ok (.isub, 1) := by decide +kernel
theorem dX3_rank_124 : decode cX3_rank 124 = .ok (.iaload, 1) := by decide +kernel
theorem dX3_rank_125 : decode cX3_rank 125 = .ok (.iastore, 1) := by decide +kernel
theorem dX3_rank_126 : decode cX3_rank 126 = .ok (.iinc 2 (-1), 3) := by decide +kernel
theorem dX3_rank_129 : decode cX3_rank 129 = .ok (.goto (-43), 3) := by decide +kernel
theorem dX3_rank_132 : decode cX3_rank 132 = .ok (.aload_n 0, 1) := by decide +kernel
theorem dX3_rank_133 : decode cX3_rank 133 = .ok (.getfield 22, 3) := by decide +kernel
theorem dX3_rank_136 : decode cX3_rank 136 = .ok (.iload_n 2, 1) := by decide +kernel
theorem dX3_rank_137 : decode cX3_rank 137 = .ok (.iload_n 1, 1) := by decide +kernel
theorem dX3_rank_138 : decode cX3_rank 138 = .ok (.iastore, 1) := by decide +kernel
theorem dX3_rank_139 : decode cX3_rank 139 = .ok (.iinc 1 1, 3) := by decide +kernel
theorem dX3_rank_142 : decode cX3_rank 142 = .ok (.goto (-72), 3) := by decide +kernel
theorem dX3_rank_145 : decode cX3_rank 145 = .ok (.return_, 1) := by decide +kernel
set_option maxRecDepth 20000 in
theorem ggX3_longestOf_X11_contains : GoodIn wsX3_longestOf wsX11_contains := goodIn_r _ [5] rfl (by decide +kernel)
set_option maxRecDepth 20000 in
theorem gX3_longestOf_X11_contains_n100 : GoodIn wsX3_longestOf (wsX11_contains) := ggX3_longestOf_X11_contains
theorem dX3_longestOf_0 : decode cX3_longestOf 0 = .ok (.iconst (-1), 1) := by decide +kernel
theorem dX3_longestOf_1 : decode cX3_longestOf 1 = .ok (.istore_n 2, 1) := by decide +kernel
theorem dX3_longestOf_2 : decode cX3_longestOf 2 = .ok (.iconst 0, 1) := by decide +kernel
theorem dX3_longestOf_3 : decode cX3_longestOf 3 = .ok (.istore_n 3, 1) := by decide +kernel
theorem dX3_longestOf_4 : decode cX3_longestOf 4 = .ok (.iload_n 3, 1) := by decide +kernel
theorem dX3_longestOf_5 : decode cX3_longestOf 5 = .ok (.aload_n 0, 1) := by decide +kernel
theorem dX3_longestOf_6 : decode cX3_longestOf 6 = .ok (.getfield 28, 3) := by decide +kernel
theorem dX3_longestOf_9 : decode cX3_longestOf 9 = .ok (.getfield 91, 3) := by decide +kernel
theorem dX3_longestOf_12 : decode cX3_longestOf 12 = .ok (.getfield 95, 3) := by decide +kernel
theorem dX3_longestOf_15 : decode cX3_longestOf 15 = .ok (.if_icmp .ge 39, 3) := by decide +kernel
theorem dX3_longestOf_18 : decode cX3_longestOf 18 = .ok (.iload_n 1, 1) := by decide +kernel
theorem dX3_longestOf_19 : decode cX3_longestOf 19 = .ok (.iload_n 3, 1) := by decide +kernel
theorem dX3_longestOf_20 : decode cX3_longestOf 20 = .ok (.invokestatic 100, 3) := by decide +kernel
theorem dX3_longestOf_23 : decode cX3_longestOf 23 = .ok (.ifCond .eq 25, 3) := by decide +kernel
theorem dX3_longestOf_26 : decode cX3_longestOf 26 = .ok (.iload_n 2, 1) := by decide +kernel
theorem dX3_longestOf_27 : decode cX3_longestOf 27 = .ok (.iconst (-1), 1) := by decide +kernel
theorem dX3_longestOf_28 : decode cX3_longestOf 28 = .ok (.if_icmp .eq 18, 3) := by decide +kernel
theorem dX3_longestOf_31 : decode cX3_longestOf 31 = .ok (.aload_n 0, 1) := by decide +kernel
theorem dX3_longestOf_32 : decode cX3_longestOf 32 = .ok (.getfield 18, 3) := by decide +kernel
theorem dX3_longestOf_35 : decode cX3_longestOf 35 = .ok (.iload_n 3, 1) := by decide +kernel
theorem dX3_longestOf_36 : decode cX3_longestOf 36 = .ok (.iaload, 1) := by decide +kernel
theorem dX3_longestOf_37 : decode cX3_longestOf 37 = .ok (.aload_n 0, 1) := by decide +kernel
theorem dX3_longestOf_38 : decode cX3_longestOf 38 = .ok (.getfield 18, 3) := by decide +kernel
theorem dX3_longestOf_41 : decode cX3_longestOf 41 = .ok (.iload_n 2, 1) := by decide +kernel
theorem dX3_longestOf_42 : decode cX3_longestOf 42 = .ok (.iaload, 1) := by decide +kernel
theorem dX3_longestOf_43 : decode cX3_longestOf 43 = .ok (.if_icmp .le 5, 3) := by decide +kernel
theorem dX3_longestOf_46 : decode cX3_longestOf 46 = .ok (.iload_n 3, 1) := by decide +kernel
theorem dX3_longestOf_47 : decode cX3_longestOf 47 = .ok (.istore_n 2, 1) := by decide +kernel
theorem dX3_longestOf_48 : decode cX3_longestOf 48 = .ok (.iinc 3 1, 3) := by decide +kernel
theorem dX3_longestOf_51 : decode cX3_longestOf 51 = .ok (.goto (-47), 3) := by decide +kernel
theorem dX3_longestOf_54 : decode cX3_longestOf 54 = .ok (.iload_n 2, 1) := by decide +kernel
theorem dX3_longestOf_55 : decode cX3_longestOf 55 = .ok (.ireturn, 1) := by decide +kernel
set_option maxRecDepth 20000 in
theorem ggX3_readyAt_X3_rank : GoodIn wsX3_readyAt wsX3_rank := goodIn_r _ [7, 1, 8, 9, 2, 10, 11, 12, 6, 13, 14, 15, 16, 27, 28, 29, 30, 31, 32, 33, 34, 35, 36, 37, 38, 39, 40, 41, 42, 43, 44, 45, 46, 47, 48, 49, 50, 51, 52, 53, 54, 55, 56, 57, 58, 59, 60, 61, 62, 63, 64, 65, 66] rfl (by decide +kernel)
set_option maxRecDepth 20000 in
theorem gX3_readyAt_X3_rank : GoodIn wsX3_readyAt (wsV RX3 40 RX3 yX3_rank wsX3_rank) := goodIn_app (goodIn_of _ (by decide +kernel)) ggX3_readyAt_X3_rank
set_option maxRecDepth 20000 in
theorem ggX3_readyAt_X3_readySteps : GoodIn wsX3_readyAt wsX3_readySteps := goodIn_r _ [20, 1, 9, 21, 22, 23, 24, 25, 26, 14, 15, 16, 27, 28, 29, 30, 31, 52, 53, 54, 55, 56, 57, 58, 59, 60, 61, 62, 63, 64, 65, 66, 32, 33, 34, 35, 36, 37, 38, 39, 40, 41, 42, 43, 44, 45, 46, 47, 48, 49, 50, 51] rfl (by decide +kernel)
set_option maxRecDepth 20000 in
theorem gX3_readyAt_X3_readySteps : GoodIn wsX3_readyAt (wsV RX3 126 RX3 yX3_readySteps wsX3_readySteps) := goodIn_app (goodIn_of _ (by decide +kernel)) ggX3_readyAt_X3_readySteps
set_option maxRecDepth 20000 in
theorem ggX3_readyAt_X11_contains : GoodIn wsX3_readyAt wsX11_contains := goodIn_r _ [16] rfl (by decide +kernel)
set_option maxRecDepth 20000 in
theorem gX3_readyAt_X11_contains_n100 : GoodIn wsX3_readyAt (wsX11_contains) := ggX3_readyAt_X11_contains
theorem dX3_readyAt_0 : decode cX3_readyAt 0 = .ok (.aload_n 0, 1) := by decide +kernel
theorem dX3_readyAt_1 : decode cX3_readyAt 1 = .ok (.invokevirtual 40, 3) := by decide +kernel
theorem dX3_readyAt_4 : decode cX3_readyAt 4 = .ok (.aload_n 0, 1) := by decide +kernel
theorem dX3_readyAt_5 : decode cX3_readyAt 5 = .ok (.invokevirtual 126, 3) := by decide +kernel
theorem dX3_readyAt_8 : decode cX3_readyAt 8 = .ok (.istore_n 2, 1) := by decide +kernel
theorem dX3_readyAt_9 : decode cX3_readyAt 9 = .ok (.iconst 0, 1) := by decide +kernel
theorem dX3_readyAt_10 : decode cX3_readyAt 10 = .ok (.istore_n 3, 1) := by decide +kernel
theorem dX3_readyAt_11 : decode cX3_readyAt 11 = .ok (.iconst 0, 1) := by decide +kernel
theorem dX3_readyAt_12 : decode cX3_readyAt 12 = .ok (.istore 4, 2) := by decide +kernel
theorem dX3_readyAt_14 : decode cX3_readyAt 14 = .ok (.iload 4, 2) := by decide +kernel
theorem dX3_readyAt_16 : decode cX3_readyAt 16 = .ok (.aload_n 0, 1) := by decide +kernel
theorem dX3_readyAt_17 : decode cX3_readyAt 17 = .ok (.getfield 28, 3) := by decide +kernel
theorem dX3_readyAt_20 : decode cX3_readyAt 20 = .ok (.getfield 91, 3) := by decide +kernel
theorem dX3_readyAt_23 : decode cX3_readyAt 23 = .ok (.getfield 95, 3) := by decide +kernel
theorem dX3_readyAt_26 : decode cX3_readyAt 26 = .ok (.if_icmp .ge 39, 3) := by decide +kernel
theorem dX3_readyAt_29 : decode cX3_readyAt 29 = .ok (.iload_n 2, 1) := by decide +kernel
theorem dX3_readyAt_30 : decode cX3_readyAt 30 = .ok (.aload_n 0, 1) := by decide +kernel
theorem dX3_readyAt_31 : decode cX3_readyAt 31 = .ok (.getfield 22, 3) := by decide +kernel
theorem dX3_readyAt_34 : decode cX3_readyAt 34 = .ok (.iload 4, 2) := by decide +kernel
theorem dX3_readyAt_36 : decode cX3_readyAt 36 = .ok (.iaload, 1) := by decide +kernel
theorem dX3_readyAt_37 : decode cX3_readyAt 37 = .ok (.invokestatic 100, 3) := by decide +kernel
theorem dX3_readyAt_40 : decode cX3_readyAt 40 = .ok (.ifCond .eq 19, 3) := by decide +kernel
theorem dX3_readyAt_43 : decode cX3_readyAt 43 = .ok (.iload_n 3, 1) := by decide +kernel
theorem dX3_readyAt_44 : decode cX3_readyAt 44 = .ok (.iload_n 1, 1) := by decide +kernel
theorem dX3_readyAt_45 : decode cX3_readyAt 45 = .ok (.if_icmp .ne 11, 3) := by decide +kernel
theorem dX3_readyAt_48 : decode cX3_readyAt 48 = .ok (.aload_n 0, 1) := by decide +kernel
theorem dX3_readyAt_49 : decode cX3_readyAt 49 = .ok (.getfield 22, 3) := by decide +kernel
theorem dX3_readyAt_52 : decode cX3_readyAt 52 = .ok (.iload 4, 2) := by decide +kernel
theorem dX3_readyAt_54 : decode cX3_readyAt 54 = .ok (.iaload, 1) := by decide +kernel
theorem dX3_readyAt_55 : decode cX3_readyAt 55 = .ok (.ireturn, 1) := by decide +kernel
theorem dX3_readyAt_56 : decode cX3_readyAt 56 = .ok (.iinc 3 1, 3) := by decide +kernel
theorem dX3_readyAt_59 : decode cX3_readyAt 59 = .ok (.iinc 4 1, 3) := by decide +kernel
theorem dX3_readyAt_62 : decode cX3_readyAt 62 = .ok (.goto (-48), 3) := by decide +kernel
theorem dX3_readyAt_65 : decode cX3_readyAt 65 = .ok (.iconst (-1), 1) := by decide +kernel
theorem dX3_readyAt_66 : decode cX3_readyAt 66 = .ok (.ireturn, 1) := by decide +kernel
set_option maxRecDepth 20000 in
theorem ggX3_criticalAt_X11_isWithin : GoodIn wsX3_criticalAt wsX11_isWithin := goodIn_r _ [4] rfl (by decide +kernel)
set_option maxRecDepth 20000 in
theorem gX3_criticalAt_X11_isWithin_n165 : GoodIn wsX3_criticalAt (wsX11_isWithin) := ggX3_criticalAt_X11_isWithin
set_option maxRecDepth 20000 in
theorem ggX3_criticalAt_X3_rank : GoodIn wsX3_criticalAt wsX3_rank := goodIn_r _ [9, 1, 10, 11, 12, 13, 14, 15, 8, 16, 17, 3, 18, 25, 26, 27, 28, 29, 30, 31, 32, 33, 34, 35, 36, 37, 38, 39, 40, 41, 42, 43, 44, 45, 46, 47, 48, 49, 50, 51, 52, 53, 54, 55, 56, 57, 58, 59, 60, 61, 62, 63, 64] rfl (by decide +kernel)
set_option maxRecDepth 20000 in
theorem gX3_criticalAt_X3_rank : GoodIn wsX3_criticalAt (wsV RX3 40 RX3 yX3_rank wsX3_rank) := goodIn_app (goodIn_of _ (by decide +kernel)) ggX3_criticalAt_X3_rank
set_option maxRecDepth 20000 in
theorem ggX3_criticalAt_X5_allSteps : GoodIn wsX3_criticalAt wsX5_allSteps := goodIn_r _ [23, 24, 30, 31, 32, 33, 34, 35, 36, 37, 38, 39, 40, 41, 42, 43, 44, 45, 46, 47, 48, 49] rfl (by decide +kernel)
set_option maxRecDepth 20000 in
theorem gX3_criticalAt_X5_allSteps : GoodIn wsX3_criticalAt (wsV RX3 51 RX5 yX5_allSteps wsX5_allSteps) := goodIn_app (goodIn_of _ (by decide +kernel)) ggX3_criticalAt_X5_allSteps
set_option maxRecDepth 20000 in
theorem ggX3_criticalAt_X3_longestOf : GoodIn wsX3_criticalAt wsX3_longestOf := goodIn_r _ [16, 1, 10, 17, 3, 18, 25, 26, 27, 28, 29, 30, 31, 32, 33, 34, 35, 36, 37, 38, 39, 40, 41, 42, 43, 44, 45, 46, 47, 48, 49] rfl (by decide +kernel)
set_option maxRecDepth 20000 in
theorem gX3_criticalAt_X3_longestOf : GoodIn wsX3_criticalAt (wsV RX3 159 RX3 yX3_longestOf wsX3_longestOf) := goodIn_app (goodIn_of _ (by decide +kernel)) ggX3_criticalAt_X3_longestOf
theorem dX3_criticalAt_0 : decode cX3_criticalAt 0 = .ok (.iload_n 1, 1) := by decide +kernel
theorem dX3_criticalAt_1 : decode cX3_criticalAt 1 = .ok (.iconst 0, 1) := by decide +kernel
theorem dX3_criticalAt_2 : decode cX3_criticalAt 2 = .ok (.aload_n 0, 1) := by decide +kernel
theorem dX3_criticalAt_3 : decode cX3_criticalAt 3 = .ok (.getfield 28, 3) := by decide +kernel
theorem dX3_criticalAt_6 : decode cX3_criticalAt 6 = .ok (.getfield 91, 3) := by decide +kernel
theorem dX3_criticalAt_9 : decode cX3_criticalAt 9 = .ok (.getfield 95, 3) := by decide +kernel
theorem dX3_criticalAt_12 : decode cX3_criticalAt 12 = .ok (.iconst 1, 1) := by decide +kernel
theorem dX3_criticalAt_13 : decode cX3_criticalAt 13 = .ok (.isub, 1) := by decide +kernel
theorem dX3_criticalAt_14 : decode cX3_criticalAt 14 = .ok (.invokestatic 165, 3) := by decide +kernel
theorem dX3_criticalAt_17 : decode cX3_criticalAt 17 = .ok (.ifCond .ne 5, 3) := by decide +kernel
theorem dX3_criticalAt_20 : decode cX3_criticalAt 20 = .ok (.iconst (-1), 1) := by decide +kernel
theorem dX3_criticalAt_21 : decode cX3_criticalAt 21 = .ok (.ireturn, 1) := by decide +kernel
theorem dX3_criticalAt_22 : decode cX3_criticalAt 22 = .ok (.aload_n 0, 1) := by decide +kernel
theorem dX3_criticalAt_23 : decode cX3_criticalAt 23 = .ok (.invokevirtual 40, 3) := by decide +kernel
theorem dX3_criticalAt_26 : decode cX3_criticalAt 26 = .ok (.aload_n 0, 1) := by decide +kernel
theorem dX3_criticalAt_27 : decode cX3_criticalAt 27 = .ok (.aload_n 0, 1) := by decide +kernel
theorem dX3_criticalAt_28 : decode cX3_criticalAt 28 = .ok (.getfield 28, 3) := by decide +kernel
theorem dX3_criticalAt_31 : decode cX3_criticalAt 31 = .ok (.invokevirtual 51, 3) := by decide +kernel
theorem dX3_criticalAt_34 : decode cX3_criticalAt 34 = .ok (.invokevirtual 159, 3) := by decide +kernel
theorem dX3_criticalAt_37 : decode cX3_criticalAt 37 = .ok (.istore_n 2, 1) := by decide +kernel
theorem dX3_criticalAt_38 : decode cX3_criticalAt 38 = .ok (.iconst 0, 1) := by decide +kernel
theorem dX3_criticalAt_39 : decode cX3_criticalAt 39 = .ok (.istore_n 3, 1) := by decide +kernel
theorem dX3_criticalAt_40 : decode cX3_criticalAt 40 = .ok (.iload_n 3, 1) := by decide +kernel
theorem dX3_criticalAt_41 : decode cX3_criticalAt 41 = .ok (.iload_n 1, 1) := by decide +kernel
theorem dX3_criticalAt_42 : decode cX3_criticalAt 42 = .ok (.if_icmp .ge 28, 3) := by decide +kernel
theorem dX3_criticalAt_45 : decode cX3_criticalAt 45 = .ok (.iload_n 2, 1) := by decide +kernel
theorem dX3_criticalAt_46 : decode cX3_criticalAt 46 = .ok (.iconst (-1), 1) := by decide +kernel
theorem dX3_criticalAt_47 : decode cX3_criticalAt 47 = .ok (.if_icmp .eq 23, 3) := by decide +kernel
theorem dX3_criticalAt_50 : decode cX3_criticalAt 50 = .ok (.aload_n 0, 1) := by decide +kernel
theorem dX3_criticalAt_51 : decode cX3_criticalAt 51 = .ok (.aload_n 0, 1) := by decide +kernel
theorem dX3_criticalAt_52 : decode cX3_criticalAt 52 = .ok (.getfield 28, 3) := by decide +kernel
theorem dX3_criticalAt_55 : decode cX3_criticalAt 55 = .ok (.getfield 141, 3) := by decide +kernel
theorem dX3_criticalAt_58 : decode cX3_criticalAt 58 = .ok (.iload_n 2, 1) := by decide +kernel
theorem dX3_criticalAt_59 : decode cX3_criticalAt 59 = .ok (.iaload, 1) := by decide +kernel
theorem dX3_criticalAt_60 : decode cX3_criticalAt 60 = .ok (.invokevirtual 159, 3) := by decide +kernel
theorem dX3_criticalAt_63 : decode cX3_criticalAt 63 = .ok (.istore_n 2, 1) := by decide +kernel
theorem dX3_criticalAt_64 : decode cX3_criticalAt 64 = .ok (.iinc 3 1, 3) := by decide +kernel
theorem dX3_criticalAt_67 : decode cX3_criticalAt 67 = .ok (.goto (-27), 3) := by decide +kernel
theorem dX3_criticalAt_70 : decode cX3_criticalAt 70 = .ok (.iload_n 2, 1) := by decide +kernel
theorem dX3_criticalAt_71 : decode cX3_criticalAt 71 = .ok (.ireturn, 1) := by decide +kernel
set_option maxRecDepth 20000 in
theorem ggX3_spareMinutes_X3_rank : GoodIn wsX3_spareMinutes wsX3_rank := goodIn_r _ [14, 2, 8, 3, 9, 15, 16, 17, 13, 18, 19, 20, 21, 22, 23, 24, 25, 26, 27, 28, 29, 30, 31, 32, 33, 34, 35, 36, 37, 38, 39, 40, 41, 42, 43, 59, 60, 61, 44, 45, 46, 47, 48, 49, 50, 51, 52, 53, 54, 55, 56, 57, 58] rfl (by decide +kernel)
set_option maxRecDepth 20000 in
theorem gX3_spareMinutes_X3_rank : GoodIn wsX3_spareMinutes (wsV RX3 40 RX3 yX3_rank wsX3_rank) := goodIn_app (goodIn_of _ (by decide +kernel)) ggX3_spareMinutes_X3_rank
set_option maxRecDepth 20000 in
theorem ggX3_spareMinutes_X11_contains : GoodIn wsX3_spareMinutes wsX11_contains := goodIn_r _ [21] rfl (by decide +kernel)
set_option maxRecDepth 20000 in
theorem gX3_spareMinutes_X11_contains_n100 : GoodIn wsX3_spareMinutes (wsX11_contains) := ggX3_spareMinutes_X11_contains
theorem dX3_spareMinutes_0 : decode cX3_spareMinutes 0 = .ok (.aload_n 0, 1) := by decide +kernel
theorem dX3_spareMinutes_1 : decode cX3_spareMinutes 1 = .ok (.invokevirtual 40, 3) := by decide +kernel
theorem dX3_spareMinutes_4 : decode cX3_spareMinutes 4 = .ok (.iconst 0, 1) := by decide +kernel
theorem dX3_spareMinutes_5 : decode cX3_spareMinutes 5 = .ok (.istore_n 2, 1) := by decide +kernel
theorem dX3_spareMinutes_6 : decode cX3_spareMinutes 6 = .ok (.iload_n 2, 1) := by decide +kernel
theorem dX3_spareMinutes_7 : decode cX3_spareMinutes 7 = .ok (.iload_n 1, 1) := by decide +kernel
theorem dX3_spareMinutes_8 : decode cX3_spareMinutes 8 = .ok (.if_icmp .gt 80, 3) := by decide +kernel
theorem dX3_spareMinutes_11 : decode cX3_spareMinutes 11 = .ok (.aload_n 0, 1) := by decide +kernel
theorem dX3_spareMinutes_12 : decode cX3_spareMinutes 12 = .ok (.getfield 25, 3) := by decide +kernel
theorem dX3_spareMinutes_15 : decode cX3_spareMinutes 15 = .ok (.iload_n 2, 1) := by decide +kernel
theorem dX3_spareMinutes_16 : decode cX3_spareMinutes 16 = .ok (.iconst 0, 1) := by decide +kernel
theorem dX3_spareMinutes_17 : decode cX3_spareMinutes 17 = .ok (.iastore, 1) := by decide +kernel
theorem dX3_spareMinutes_18 : decode cX3_spareMinutes 18 = .ok (.iconst 0, 1) := by decide +kernel
theorem dX3_spareMinutes_19 : decode cX3_spareMinutes 19 = .ok (.istore_n 3, 1) := by decide +kernel
theorem dX3_spareMinutes_20 : decode cX3_spareMinutes 20 = .ok (.iload_n 3, 1) := by decide +kernel
theorem dX3_spareMinutes_21 : decode cX3_spareMinutes 21 = .ok (.iload_n 2, 1) := by decide +kernel
theorem dX3_spareMinutes_22 : decode cX3_spareMinutes 22 = .ok (.if_icmp .ge 60, 3) := by decide +kernel
theorem dX3_spareMinutes_25 : decode cX3_spareMinutes 25 = .ok (.aload_n 0, 1) := by decide +kernel
theorem dX3_spareMinutes_26 : decode cX3_spareMinutes 26 = .ok (.getfield 28, 3) := by decide +kernel
theorem dX3_spareMinutes_29 : decode cX3_spareMinutes 29 = .ok (.getfield 138, 3) := by decide +kernel
theorem dX3_spareMinutes_32 : decode cX3_spareMinutes 32 = .ok (.iload_n 2, 1) := by decide +kernel
theorem dX3_spareMinutes_33 : decode cX3_spareMinutes 33 = .ok (.iaload, 1) := by decide +kernel
theorem dX3_spareMinutes_34 : decode cX3_spareMinutes 34 = .ok (.iload_n 3, 1) := by decide +kernel
theorem dX3_spareMinutes_35 : decode cX3_spareMinutes 35 = .ok (.invokestatic 100, 3) := by decide +kernel
theorem dX3_spareMinutes_38 : decode cX3_spareMinutes 38 = .ok (.ifCond .eq 38, 3) := by decide +kernel
theorem dX3_spareMinutes_41 : decode cX3_spareMinutes 41 = .ok (.aload_n 0, 1) := by decide +kernel
theorem dX3_spareMinutes_42 : decode cX3_spareMinutes 42 = .ok (.getfield 25, 3) := by decide +kernel
theorem dX3_spareMinutes_45 : decode cX3_spareMinutes 45 = .ok (.iload_n 3, 1) := by decide +kernel
theorem dX3_spareMinutes_46 : decode cX3_spareMinutes 46 = .ok (.iaload, 1) := by decide +kernel
theorem dX3_spareMinutes_47 : decode cX3_spareMinutes 47 = .ok (.aload_n 0, 1) := by decide +kernel
theorem dX3_spareMinutes_48 : decode cX3_spareMinutes 48 = .ok (.getfield 12, 3) := by decide +kernel
theorem dX3_spareMinutes_51 : decode cX3_spareMinutes 51 = .ok (.getfield 162, 3) := by decide +kernel
theorem dX3_spareMinutes_54 : decode cX3_spareMinutes 54 = .ok (.iload_n 3, 1) := by decide +kernel
theorem dX3_spareMinutes_55 : decode cX3_spareMinutes 55 = .ok (.iaload, 1) := by decide +kernel
theorem dX3_spareMinutes_56 : decode cX3_spareMinutes 56 = .ok (.iadd, 1) := by decide +kernel
theorem dX3_spareMinutes_57 : decode cX3_spareMinutes 57 = .ok (.istore 4, 2) := by decide +kernel
theorem dX3_spareMinutes_59 : decode cX3_spareMinutes 59 = .ok (.aload_n 0, 1) := by decide +kernel
theorem dX3_spareMinutes_60 : decode cX3_spareMinutes 60 = .ok (.getfield 25, 3) := by decide +kernel
theorem dX3_spareMinutes_63 : decode cX3_spareMinutes 63 = .ok (.iload_n 2, 1) := by decide +kernel
theorem dX3_spareMinutes_64 : decode cX3_spareMinutes 64 = .ok (.aload_n 0, 1) := by decide +kernel
theorem dX3_spareMinutes_65 : decode cX3_spareMinutes 65 = .ok (.getfield 25, 3) := by decide +kernel
theorem dX3_spareMinutes_68 : decode cX3_spareMinutes 68 = .ok (.iload_n 2, 1) := by decide +kernel
theorem dX3_spareMinutes_69 : decode cX3_spareMinutes 69 = .ok (.iaload, 1) := by decide +kernel
theorem dX3_spareMinutes_70 : decode cX3_spareMinutes 70 = .ok (.iload 4, 2) := by decide +kernel
theorem dX3_spareMinutes_72 : decode cX3_spareMinutes 72 = .ok (.invokestatic 169, 3) := by decide +kernel
theorem dX3_spareMinutes_75 : decode cX3_spareMinutes 75 = .ok (.iastore, 1) := by decide +kernel
theorem dX3_spareMinutes_76 : decode cX3_spareMinutes 76 = .ok (.iinc 3 1, 3) := by decide +kernel
theorem dX3_spareMinutes_79 : decode cX3_spareMinutes 79 = .ok (.goto (-59), 3) := by decide +kernel
theorem dX3_spareMinutes_82 : decode cX3_spareMinutes 82 = .ok (.iinc 2 1, 3) := by decide +kernel
theorem dX3_spareMinutes_85 : decode cX3_spareMinutes 85 = .ok (.goto (-79), 3) := by decide +kernel
theorem dX3_spareMinutes_88 : decode cX3_spareMinutes 88 = .ok (.aload_n 0, 1) := by decide +kernel
theorem dX3_spareMinutes_89 : decode cX3_spareMinutes 89 = .ok (.getfield 18, 3) := by decide +kernel
theorem dX3_spareMinutes_92 : decode cX3_spareMinutes 92 = .ok (.aload_n 0, 1) := by decide +kernel
theorem dX3_spareMinutes_93 : decode cX3_spareMinutes 93 = .ok (.getfield 22, 3) := by decide +kernel
theorem dX3_spareMinutes_96 : decode cX3_spareMinutes 96 = .ok (.iconst 0, 1) := by decide +kernel
theorem dX3_spareMinutes_97 : decode cX3_spareMinutes 97 = .ok (.iaload, 1) := by decide +kernel
theorem dX3_spareMinutes_98 : decode cX3_spareMinutes 98 = .ok (.iaload, 1) := by decide +kernel
theorem dX3_spareMinutes_99 : decode cX3_spareMinutes 99 = .ok (.aload_n 0, 1) := by decide +kernel
theorem dX3_spareMinutes_100 : decode cX3_spareMinutes 100 = .ok (.getfield 18, 3) := by decide +kernel
theorem dX3_spareMinutes_103 : decode cX3_spareMinutes 103 = .ok (.iload_n 1, 1) := by decide +kernel
theorem dX3_spareMinutes_104 : decode cX3_spareMinutes 104 = .ok (.iaload, 1) := by decide +kernel
theorem dX3_spareMinutes_105 : decode cX3_spareMinutes 105 = .ok (.isub, 1) := by decide +kernel
theorem dX3_spareMinutes_106 : decode cX3_spareMinutes 106 = .ok (.aload_n 0, 1) := by decide +kernel
theorem dX3_spareMinutes_107 : decode cX3_spareMinutes 107 = .ok (.getfield 25, 3) := by decide +kernel
theorem dX3_spareMinutes_110 : decode cX3_spareMinutes 110 = .ok (.iload_n 1, 1) := by decide +kernel
theorem dX3_spareMinutes_111 : decode cX3_spareMinutes 111 = .ok (.iaload, 1) := by decide +kernel
theorem dX3_spareMinutes_112 : decode cX3_spareMinutes 112 = .ok (.isub, 1) := by decide +kernel
theorem dX3_spareMinutes_113 : decode cX3_spareMinutes 113 = .ok (.ireturn, 1) := by decide +kernel
set_option maxRecDepth 20000 in
theorem ggX3_obstacle_X11_contains : GoodIn wsX3_obstacle wsX11_contains := goodIn_r _ [5] rfl (by decide +kernel)
set_option maxRecDepth 20000 in
theorem gX3_obstacle_X11_contains_n100 : GoodIn wsX3_obstacle (wsX11_contains) := ggX3_obstacle_X11_contains
set_option maxRecDepth 20000 in
theorem ggX3_obstacle_X3_hasFreePan : GoodIn wsX3_obstacle wsX3_hasFreePan := goodIn_r _ [10, 2, 11, 12, 13, 9, 14, 1, 15, 16, 17, 18, 19, 20, 21, 26, 27, 28, 29, 30, 46, 47, 48, 49, 50, 51, 52, 53, 54, 55, 56, 57, 58, 59, 60, 61, 62, 31, 32, 33, 34, 35, 36, 37, 38, 39, 40, 41, 42, 43, 44, 45, 63, 64, 65] rfl (by decide +kernel)
set_option maxRecDepth 20000 in
theorem gX3_obstacle_X3_hasFreePan : GoodIn wsX3_obstacle (wsV RX3 132 RX3 yX3_hasFreePan wsX3_hasFreePan) := goodIn_app (goodIn_of _ (by decide +kernel)) ggX3_obstacle_X3_hasFreePan
set_option maxRecDepth 20000 in
theorem ggX3_obstacle_X3_hasFreeCook : GoodIn wsX3_obstacle wsX3_hasFreeCook := goodIn_r _ [25, 2, 1, 3, 4, 5, 15, 16, 17, 18, 19, 20, 21, 26, 27, 28, 29, 30, 46, 47, 48, 49, 50, 51, 52, 53, 54, 55, 56, 57, 58, 59, 60, 61, 62, 31, 32, 33, 34, 35, 36, 37, 38, 39, 40, 41, 42, 43, 44, 45] rfl (by decide +kernel)
set_option maxRecDepth 20000 in
theorem gX3_obstacle_X3_hasFreeCook : GoodIn wsX3_obstacle (wsV RX3 129 RX3 yX3_hasFreeCook wsX3_hasFreeCook) := goodIn_app (goodIn_of _ (by decide +kernel)) ggX3_obstacle_X3_hasFreeCook
theorem dX3_obstacle_0 : decode cX3_obstacle 0 = .ok (.aload_n 0, 1) := by decide +kernel
theorem dX3_obstacle_1 : decode cX3_obstacle 1 = .ok (.getfield 12, 3) := by decide +kernel
theorem dX3_obstacle_4 : decode cX3_obstacle 4 = .ok (.getfield 82, 3) := by decide +kernel
theorem dX3_obstacle_7 : decode cX3_obstacle 7 = .ok (.iload_n 1, 1) := by decide +kernel
theorem dX3_obstacle_8 : decode cX3_obstacle 8 = .ok (.invokestatic 100, 3) := by decide +kernel
theorem dX3_obstacle_11 : decode cX3_obstacle 11 = .ok (.ifCond .eq 5, 3) := by decide +kernel
theorem dX3_obstacle_14 : decode cX3_obstacle 14 = .ok (.iconst 0, 1) := by decide +kernel
theorem dX3_obstacle_15 : decode cX3_obstacle 15 = .ok (.ireturn, 1) := by decide +kernel
theorem dX3_obstacle_16 : decode cX3_obstacle 16 = .ok (.aload_n 0, 1) := by decide +kernel
theorem dX3_obstacle_17 : decode cX3_obstacle 17 = .ok (.getfield 12, 3) := by decide +kernel
theorem dX3_obstacle_20 : decode cX3_obstacle 20 = .ok (.getfield 47, 3) := by decide +kernel
theorem dX3_obstacle_23 : decode cX3_obstacle 23 = .ok (.iload_n 1, 1) := by decide +kernel
theorem dX3_obstacle_24 : decode cX3_obstacle 24 = .ok (.invokestatic 100, 3) := by decide +kernel
theorem dX3_obstacle_27 : decode cX3_obstacle 27 = .ok (.ifCond .eq 5, 3) := by decide +kernel
theorem dX3_obstacle_30 : decode cX3_obstacle 30 = .ok (.iconst 1, 1) := by decide +kernel
theorem dX3_obstacle_31 : decode cX3_obstacle 31 = .ok (.ireturn, 1) := by decide +kernel
theorem dX3_obstacle_32 : decode cX3_obstacle 32 = .ok (.aload_n 0, 1) := by decide +kernel
theorem dX3_obstacle_33 : decode cX3_obstacle 33 = .ok (.getfield 28, 3) := by decide +kernel
theorem dX3_obstacle_36 : decode cX3_obstacle 36 = .ok (.getfield 138, 3) := by decide +kernel
theorem dX3_obstacle_39 : decode cX3_obstacle 39 = .ok (.iload_n 1, 1) := by decide +kernel
theorem dX3_obstacle_40 : decode cX3_obstacle 40 = .ok (.iaload, 1) := by decide +kernel
theorem dX3_obstacle_41 : decode cX3_obstacle 41 = .ok (.aload_n 0, 1) := by decide +kernel
theorem dX3_obstacle_42 : decode cX3_obstacle 42 = .ok (.getfield 12, 3) := by decide +kernel
theorem dX3_obstacle_45 : decode cX3_obstacle 45 = .ok (.getfield 47, 3) := by decide +kernel
theorem dX3_obstacle_48 : decode cX3_obstacle 48 = .ok (.iconst (-1), 1) := by decide +kernel
theorem dX3_obstacle_49 : decode cX3_obstacle 49 = .ok (.ixor, 1) := by decide +kernel
theorem dX3_obstacle_50 : decode cX3_obstacle 50 = .ok (.iand, 1) := by decide +kernel
theorem dX3_obstacle_51 : decode cX3_obstacle 51 = .ok (.ifCond .eq 5, 3) := by decide +kernel
theorem dX3_obstacle_54 : decode cX3_obstacle 54 = .ok (.iconst 2, 1) := by decide +kernel
theorem dX3_obstacle_55 : decode cX3_obstacle 55 = .ok (.ireturn, 1) := by decide +kernel
theorem dX3_obstacle_56 : decode cX3_obstacle 56 = .ok (.aload_n 0, 1) := by decide +kernel
theorem dX3_obstacle_57 : decode cX3_obstacle 57 = .ok (.iload_n 1, 1) := by decide +kernel
theorem dX3_obstacle_58 : decode cX3_obstacle 58 = .ok (.invokevirtual 132, 3) := by decide +kernel
theorem dX3_obstacle_61 : decode cX3_obstacle 61 = .ok (.ifCond .ne 5, 3) := by decide +kernel
theorem dX3_obstacle_64 : decode cX3_obstacle 64 = .ok (.iconst 3, 1) := by decide +kernel
theorem dX3_obstacle_65 : decode cX3_obstacle 65 = .ok (.ireturn, 1) := by decide +kernel
theorem dX3_obstacle_66 : decode cX3_obstacle 66 = .ok (.aload_n 0, 1) := by decide +kernel
theorem dX3_obstacle_67 : decode cX3_obstacle 67 = .ok (.iload_n 1, 1) := by decide +kernel
theorem dX3_obstacle_68 : decode cX3_obstacle 68 = .ok (.invokevirtual 129, 3) := by decide +kernel
theorem dX3_obstacle_71 : decode cX3_obstacle 71 = .ok (.ifCond .eq 7, 3) := by decide +kernel
theorem dX3_obstacle_74 : decode cX3_obstacle 74 = .ok (.iconst 5, 1) := by decide +kernel
theorem dX3_obstacle_75 : decode cX3_obstacle 75 = .ok (.goto 4, 3) := by decide +kernel
theorem dX3_obstacle_78 : decode cX3_obstacle 78 = .ok (.iconst 4, 1) := by decide +kernel
theorem dX3_obstacle_79 : decode cX3_obstacle 79 = .ok (.ireturn, 1) := by decide +kernel
set_option maxRecDepth 20000 in
theorem ggX3_blocker_X3_obstacle : GoodIn wsX3_blocker wsX3_obstacle := goodIn_r _ [7, 2, 1, 8, 9, 10, 11, 12, 13, 6, 14, 15, 16, 17, 18, 19, 20, 21, 22, 23, 24, 25, 26, 27, 28, 29, 37, 38, 39, 40, 41, 59, 60, 61, 62, 63, 64, 65, 66, 67, 68, 69, 70, 71, 72, 73, 42, 43, 44, 45, 46, 47, 48, 49, 50, 51, 52, 53, 54, 55, 56, 57, 58, 74, 75, 76] rfl (by decide +kernel)
set_option maxRecDepth 20000 in
theorem gX3_blocker_X3_obstacle : GoodIn wsX3_blocker (wsV RX3 175 RX3 yX3_obstacle wsX3_obstacle) := goodIn_app (goodIn_of _ (by decide +kernel)) ggX3_blocker_X3_obstacle
set_option maxRecDepth 20000 in
theorem ggX3_blocker_X3_missingBefore : GoodIn wsX3_blocker wsX3_missingBefore := goodIn_r _ [33, 1, 2, 8, 9, 10, 37, 38, 39, 40, 41, 42, 43, 44, 45, 46, 47, 48, 49, 50, 51, 52, 53, 54, 55, 56, 57, 58, 59, 60, 61, 62, 63, 64, 65, 66, 67, 68, 69, 70, 71, 72, 73] rfl (by decide +kernel)
set_option maxRecDepth 20000 in
theorem gX3_blocker_X3_missingBefore : GoodIn wsX3_blocker (wsV RX3 178 RX3 yX3_missingBefore wsX3_missingBefore) := goodIn_app (goodIn_of _ (by decide +kernel)) ggX3_blocker_X3_missingBefore
set_option maxRecDepth 20000 in
theorem ggX3_blocker_X3_occupants : GoodIn wsX3_blocker wsX3_occupants := goodIn_r _ [18, 1, 2, 37, 38, 39, 40, 41, 42, 43, 44, 45, 46, 47, 48, 49, 50, 51, 52, 53, 54, 55, 56, 57, 58, 59, 60, 61, 62, 63, 64, 65, 66, 67, 68, 69, 70, 71, 72, 73, 74, 75, 76] rfl (by decide +kernel)
set_option maxRecDepth 20000 in
theorem gX3_blocker_X3_occupants : GoodIn wsX3_blocker (wsV RX3 150 RX3 yX3_occupants wsX3_occupants) := goodIn_app (goodIn_of _ (by decide +kernel)) ggX3_blocker_X3_occupants
set_option maxRecDepth 20000 in
theorem ggX3_blocker_X11_lowestOf : GoodIn wsX3_blocker wsX11_lowestOf := goodIn_r _ [35, 36, 8, 9, 10] rfl (by decide +kernel)
set_option maxRecDepth 20000 in
theorem gX3_blocker_X11_lowestOf_n181 : GoodIn wsX3_blocker (wsX11_lowestOf) := ggX3_blocker_X11_lowestOf
theorem dX3_blocker_0 : decode cX3_blocker 0 = .ok (.aload_n 0, 1) := by decide +kernel
theorem dX3_blocker_1 : decode cX3_blocker 1 = .ok (.iload_n 1, 1) := by decide +kernel
theorem dX3_blocker_2 : decode cX3_blocker 2 = .ok (.invokevirtual 175, 3) := by decide +kernel
theorem dX3_blocker_5 : decode cX3_blocker 5 = .ok (.tableswitch 71 2 4 #[27, 33, 50], 27) := by decide +kernel
theorem dX3_blocker_32 : decode cX3_blocker 32 = .ok (.aload_n 0, 1) := by decide +kernel
theorem dX3_blocker_33 : decode cX3_blocker 33 = .ok (.iload_n 1, 1) := by decide +kernel
theorem dX3_blocker_34 : decode cX3_blocker 34 = .ok (.invokevirtual 178, 3) := by decide +kernel
theorem dX3_blocker_37 : decode cX3_blocker 37 = .ok (.ireturn, 1) := by decide +kernel
theorem dX3_blocker_38 : decode cX3_blocker 38 = .ok (.aload_n 0, 1) := by decide +kernel
theorem dX3_blocker_39 : decode cX3_blocker 39 = .ok (.aload_n 0, 1) := by decide +kernel
theorem dX3_blocker_40 : decode cX3_blocker 40 = .ok (.getfield 28, 3) := by decide +kernel
theorem dX3_blocker_43 : decode cX3_blocker 43 = .ok (.getfield 147, 3) := by decide +kernel
theorem dX3_blocker_46 : decode cX3_blocker 46 = .ok (.iload_n 1, 1) := by decide +kernel
theorem dX3_blocker_47 : decode cX3_blocker 47 = .ok (.iaload, 1) := by decide +kernel
theorem dX3_blocker_48 : decode cX3_blocker 48 = .ok (.invokevirtual 150, 3) := by decide +kernel
theorem dX3_blocker_51 : decode cX3_blocker 51 = .ok (.invokestatic 181, 3) := by decide +kernel
theorem dX3_blocker_54 : decode cX3_blocker 54 = .ok (.ireturn, 1) := by decide +kernel
theorem dX3_blocker_55 : decode cX3_blocker 55 = .ok (.aload_n 0, 1) := by decide +kernel
theorem dX3_blocker_56 : decode cX3_blocker 56 = .ok (.getfield 12, 3) := by decide +kernel
theorem dX3_blocker_59 : decode cX3_blocker 59 = .ok (.getfield 82, 3) := by decide +kernel
theorem dX3_blocker_62 : decode cX3_blocker 62 = .ok (.aload_n 0, 1) := by decide +kernel
theorem dX3_blocker_63 : decode cX3_blocker 63 = .ok (.getfield 28, 3) := by decide +kernel
theorem dX3_blocker_66 : decode cX3_blocker 66 = .ok (.getfield 88, 3) := by decide +kernel
theorem dX3_blocker_69 : decode cX3_blocker 69 = .ok (.iconst (-1), 1) := by decide +kernel
theorem dX3_blocker_70 : decode cX3_blocker 70 = .ok (.ixor, 1) := by decide +kernel
theorem dX3_blocker_71 : decode cX3_blocker 71 = .ok (.iand, 1) := by decide +kernel
theorem dX3_blocker_72 : decode cX3_blocker 72 = .ok (.invokestatic 181, 3) := by decide +kernel
theorem dX3_blocker_75 : decode cX3_blocker 75 = .ok (.ireturn, 1) := by decide +kernel
theorem dX3_blocker_76 : decode cX3_blocker 76 = .ok (.iconst (-1), 1) := by decide +kernel
theorem dX3_blocker_77 : decode cX3_blocker 77 = .ok (.ireturn, 1) := by decide +kernel
set_option maxRecDepth 20000 in
theorem ggX3_missingBefore_X11_contains : GoodIn wsX3_missingBefore wsX11_contains := goodIn_r _ [5] rfl (by decide +kernel)
set_option maxRecDepth 20000 in
theorem gX3_missingBefore_X11_contains_n100 : GoodIn wsX3_missingBefore (wsX11_contains) := ggX3_missingBefore_X11_contains
theorem dX3_missingBefore_0 : decode cX3_missingBefore 0 = .ok (.iconst 0, 1) := by decide +kernel
theorem dX3_missingBefore_1 : decode cX3_missingBefore 1 = .ok (.istore_n 2, 1) := by decide +kernel
theorem dX3_missingBefore_2 : decode cX3_missingBefore 2 = .ok (.iload_n 2, 1) := by decide +kernel
theorem dX3_missingBefore_3 : decode cX3_missingBefore 3 = .ok (.aload_n 0, 1) := by decide +kernel
theorem dX3_missingBefore_4 : decode cX3_missingBefore 4 = .ok (.getfield 28, 3) := by decide +kernel
theorem dX3_missingBefore_7 : decode cX3_missingBefore 7 = .ok (.getfield 184, 3) := by decide +kernel
theorem dX3_missingBefore_10 : decode cX3_missingBefore 10 = .ok (.iload_n 1, 1) := by decide +kernel
theorem dX3_missingBefore_11 : decode cX3_missingBefore 11 = .ok (.iaload, 1) := by decide +kernel
theorem dX3_missingBefore_12 : decode cX3_missingBefore 12 = .ok (.if_icmp .ge 37, 3) := by decide +kernel
theorem dX3_missingBefore_15 : decode cX3_missingBefore 15 = .ok (.aload_n 0, 1) := by decide +kernel
theorem dX3_missingBefore_16 : decode cX3_missingBefore 16 = .ok (.getfield 28, 3) := by decide +kernel
theorem dX3_missingBefore_19 : decode cX3_missingBefore 19 = .ok (.getfield 187, 3) := by decide +kernel
theorem dX3_missingBefore_22 : decode cX3_missingBefore 22 = .ok (.iload_n 1, 1) := by decide +kernel
theorem dX3_missingBefore_23 : decode cX3_missingBefore 23 = .ok (.aaload, 1) := by decide +kernel
theorem dX3_missingBefore_24 : decode cX3_missingBefore 24 = .ok (.iload_n 2, 1) := by decide +kernel
theorem dX3_missingBefore_25 : decode cX3_missingBefore 25 = .ok (.iaload, 1) := by decide +kernel
theorem dX3_missingBefore_26 : decode cX3_missingBefore 26 = .ok (.istore_n 3, 1) := by decide +kernel
theorem dX3_missingBefore_27 : decode cX3_missingBefore 27 = .ok (.aload_n 0, 1) := by decide +kernel
theorem dX3_missingBefore_28 : decode cX3_missingBefore 28 = .ok (.getfield 12, 3) := by decide +kernel
theorem dX3_missingBefore_31 : decode cX3_missingBefore 31 = .ok (.getfield 47, 3) := by decide +kernel
theorem dX3_missingBefore_34 : decode cX3_missingBefore 34 = .ok (.iload_n 3, 1) := by decide +kernel
theorem dX3_missingBefore_35 : decode cX3_missingBefore 35 = .ok (.invokestatic 100, 3) := by decide +kernel
theorem dX3_missingBefore_38 : decode cX3_missingBefore 38 = .ok (.ifCond .ne 5, 3) := by decide +kernel
theorem dX3_missingBefore_41 : decode cX3_missingBefore 41 = .ok (.iload_n 3, 1) := by decide +kernel
theorem dX3_missingBefore_42 : decode cX3_missingBefore 42 = .ok (.ireturn, 1) := by decide +kernel
theorem dX3_missingBefore_43 : decode cX3_missingBefore 43 = .ok (.iinc 2 1, 3) := by decide +kernel
theorem dX3_missingBefore_46 : decode cX3_missingBefore 46 = .ok (.goto (-44), 3) := by decide +kernel
theorem dX3_missingBefore_49 : decode cX3_missingBefore 49 = .ok (.iconst (-1), 1) := by decide +kernel
theorem dX3_missingBefore_50 : decode cX3_missingBefore 50 = .ok (.ireturn, 1) := by decide +kernel
set_option maxRecDepth 20000 in
theorem ggX3_deepestMissing_X3_obstacle : GoodIn wsX3_deepestMissing wsX3_obstacle := goodIn_r _ [5, 6, 7, 8, 9, 10, 11, 12, 13, 4, 14, 15, 16, 17, 18, 19, 20, 21, 22, 23, 24, 25, 26, 27, 28, 29, 34, 35, 36, 37, 38, 39, 40, 41, 42, 43, 44, 45, 46, 47, 48, 49, 50, 51, 52, 53, 54, 55, 56, 57, 58, 59, 60, 61, 62, 63, 64, 65, 66, 67, 68, 69, 70, 71, 72, 73] rfl (by decide +kernel)
set_option maxRecDepth 20000 in
theorem gX3_deepestMissing_X3_obstacle : GoodIn wsX3_deepestMissing (wsV RX3 175 RX3 yX3_obstacle wsX3_obstacle) := goodIn_app (goodIn_of _ (by decide +kernel)) ggX3_deepestMissing_X3_obstacle
set_option maxRecDepth 20000 in
theorem ggX3_deepestMissing_X3_missingBefore : GoodIn wsX3_deepestMissing wsX3_missingBefore := goodIn_r _ [33, 7, 6, 8, 9, 10, 34, 35, 36, 37, 38, 54, 55, 56, 57, 58, 59, 60, 61, 62, 63, 64, 65, 66, 67, 68, 69, 70, 39, 40, 41, 42, 43, 44, 45, 46, 47, 48, 49, 50, 51, 52, 53] rfl (by decide +kernel)
set_option maxRecDepth 20000 in
theorem gX3_deepestMissing_X3_missingBefore : GoodIn wsX3_deepestMissing (wsV RX3 178 RX3 yX3_missingBefore wsX3_missingBefore) := goodIn_app (goodIn_of _ (by decide +kernel)) ggX3_deepestMissing_X3_missingBefore
theorem dX3_deepestMissing_0 : decode cX3_deepestMissing 0 = .ok (.iconst (-1), 1) := by decide +kernel
theorem dX3_deepestMissing_1 : decode cX3_deepestMissing 1 = .ok (.istore_n 2, 1) := by decide +kernel
theorem dX3_deepestMissing_2 : decode cX3_deepestMissing 2 = .ok (.iload_n 1, 1) := by decide +kernel
theorem dX3_deepestMissing_3 : decode cX3_deepestMissing 3 = .ok (.istore_n 3, 1) := by decide +kernel
theorem dX3_deepestMissing_4 : decode cX3_deepestMissing 4 = .ok (.iconst 0, 1) := by decide +kernel
theorem dX3_deepestMissing_5 : decode cX3_deepestMissing 5 = .ok (.istore 4, 2) := by decide +kernel
theorem dX3_deepestMissing_7 : decode cX3_deepestMissing 7 = .ok (.iload 4, 2) := by decide +kernel
theorem dX3_deepestMissing_9 : decode cX3_deepestMissing 9 = .ok (.bipush 14, 2) := by decide +kernel
theorem dX3_deepestMissing_11 : decode cX3_deepestMissing 11 = .ok (.if_icmp .ge 40, 3) := by decide +kernel
theorem dX3_deepestMissing_14 : decode cX3_deepestMissing 14 = .ok (.iload_n 3, 1) := by decide +kernel
theorem dX3_deepestMissing_15 : decode cX3_deepestMissing 15 = .ok (.iconst (-1), 1) := by decide +kernel
theorem dX3_deepestMissing_16 : decode cX3_deepestMissing 16 = .ok (.if_icmp .eq 35, 3) := by decide +kernel
theorem dX3_deepestMissing_19 : decode cX3_deepestMissing 19 = .ok (.aload_n 0, 1) := by decide +kernel
theorem dX3_deepestMissing_20 : decode cX3_deepestMissing 20 = .ok (.iload_n 3, 1) := by decide +kernel
theorem dX3_deepestMissing_21 : decode cX3_deepestMissing 21 = .ok (.invokevirtual 175, 3) := by decide +kernel
theorem dX3_deepestMissing_24 : decode cX3_deepestMissing 24 = .ok (.iconst 2, 1) := by decide +kernel
theorem dX3_deepestMissing_25 : decode cX3_deepestMissing 25 = .ok (.if_icmp .ne 11, 3) := by decide +kernel
theorem dX3_deepestMissing_28 : decode cX3_deepestMissing 28 = .ok (.aload_n 0, 1) := by decide +kernel
theorem dX3_deepestMissing_29 : decode cX3_deepestMissing 29 = .ok (.iload_n 3, 1) := by decide +kernel
theorem dX3_deepestMissing_30 : decode cX3_deepestMissing 30 = .ok (.invokevirtual 178, 3) := by decide +kernel
theorem dX3_deepestMissing_33 : decode cX3_deepestMissing 33 = .ok (.goto 4, 3) := by decide +kernel
theorem dX3_deepestMissing_36 : decode cX3_deepestMissing 36 = .ok (.iconst (-1), 1) := by decide +kernel
theorem dX3_deepestMissing_37 : decode cX3_deepestMissing 37 = .ok (.istore_n 3, 1) := by decide +kernel
theorem dX3_deepestMissing_38 : decode cX3_deepestMissing 38 = .ok (.iload_n 3, 1) := by decide +kernel
theorem dX3_deepestMissing_39 : decode cX3_deepestMissing 39 = .ok (.iconst (-1), 1) := by decide +kernel
theorem dX3_deepestMissing_40 : decode cX3_deepestMissing 40 = .ok (.if_icmp .eq 5, 3) := by decide +kernel
theorem dX3_deepestMissing_43 : decode cX3_deepestMissing 43 = .ok (.iload_n 3, 1) := by decide +kernel
theorem dX3_deepestMissing_44 : decode cX3_deepestMissing 44 = .ok (.istore_n 2, 1) := by decide +kernel
theorem dX3_deepestMissing_45 : decode cX3_deepestMissing 45 = .ok (.iinc 4 1, 3) := by decide +kernel
theorem dX3_deepestMissing_48 : decode cX3_deepestMissing 48 = .ok (.goto (-41), 3) := by decide +kernel
theorem dX3_deepestMissing_51 : decode cX3_deepestMissing 51 = .ok (.iload_n 2, 1) := by decide +kernel
theorem dX3_deepestMissing_52 : decode cX3_deepestMissing 52 = .ok (.ireturn, 1) := by decide +kernel
set_option maxRecDepth 20000 in
theorem ggX3_dishTaste_X11_contains : GoodIn wsX3_dishTaste wsX11_contains := goodIn_r _ [5] rfl (by decide +kernel)
set_option maxRecDepth 20000 in
theorem gX3_dishTaste_X11_contains_n100 : GoodIn wsX3_dishTaste (wsX11_contains) := ggX3_dishTaste_X11_contains
theorem dX3_dishTaste_0 : decode cX3_dishTaste 0 = .ok (.aload_n 0, 1) := by decide +kernel
theorem dX3_dishTaste_1 : decode cX3_dishTaste 1 = .ok (.getfield 12, 3) := by decide +kernel
theorem dX3_dishTaste_4 : decode cX3_dishTaste 4 = .ok (.getfield 191, 3) := by decide +kernel
theorem dX3_dishTaste_7 : decode cX3_dishTaste 7 = .ok (.istore_n 1, 1) := by decide +kernel
theorem dX3_dishTaste_8 : decode cX3_dishTaste 8 = .ok (.iconst 0, 1) := by decide +kernel
theorem dX3_dishTaste_9 : decode cX3_dishTaste 9 = .ok (.istore_n 2, 1) := by decide +kernel
theorem dX3_dishTaste_10 : decode cX3_dishTaste 10 = .ok (.iload_n 2, 1) := by decide +kernel
theorem dX3_dishTaste_11 : decode cX3_dishTaste 11 = .ok (.aload_n 0, 1) := by decide +kernel
theorem dX3_dishTaste_12 : decode cX3_dishTaste 12 = .ok (.getfield 28, 3) := by decide +kernel
theorem dX3_dishTaste_15 : decode cX3_dishTaste 15 = .ok (.getfield 91, 3) := by decide +kernel
theorem dX3_dishTaste_18 : decode cX3_dishTaste 18 = .ok (.getfield 95, 3) := by decide +kernel
theorem dX3_dishTaste_21 : decode cX3_dishTaste 21 = .ok (.if_icmp .ge 35, 3) := by decide +kernel
theorem dX3_dishTaste_24 : decode cX3_dishTaste 24 = .ok (.aload_n 0, 1) := by decide +kernel
theorem dX3_dishTaste_25 : decode cX3_dishTaste 25 = .ok (.getfield 12, 3) := by decide +kernel
theorem dX3_dishTaste_28 : decode cX3_dishTaste 28 = .ok (.getfield 47, 3) := by decide +kernel
theorem dX3_dishTaste_31 : decode cX3_dishTaste 31 = .ok (.iload_n 2, 1) := by decide +kernel
theorem dX3_dishTaste_32 : decode cX3_dishTaste 32 = .ok (.invokestatic 100, 3) := by decide +kernel
theorem dX3_dishTaste_35 : decode cX3_dishTaste 35 = .ok (.ifCond .eq 15, 3) := by decide +kernel
theorem dX3_dishTaste_38 : decode cX3_dishTaste 38 = .ok (.iload_n 1, 1) := by decide +kernel
theorem dX3_dishTaste_39 : decode cX3_dishTaste 39 = .ok (.aload_n 0, 1) := by decide +kernel
theorem dX3_dishTaste_40 : decode cX3_dishTaste 40 = .ok (.getfield 28, 3) := by decide +kernel
theorem dX3_dishTaste_43 : decode cX3_dishTaste 43 = .ok (.getfield 194, 3) := by decide +kernel
theorem dX3_dishTaste_46 : decode cX3_dishTaste 46 = .ok (.iload_n 2, 1) := by decide +kernel
theorem dX3_dishTaste_47 : decode cX3_dishTaste 47 = .ok (.iaload, 1) := by decide +kernel
theorem dX3_dishTaste_48 : decode cX3_dishTaste 48 = .ok (.iadd, 1) := by decide +kernel
theorem dX3_dishTaste_49 : decode cX3_dishTaste 49 = .ok (.istore_n 1, 1) := by decide +kernel
theorem dX3_dishTaste_50 : decode cX3_dishTaste 50 = .ok (.iinc 2 1, 3) := by decide +kernel
theorem dX3_dishTaste_53 : decode cX3_dishTaste 53 = .ok (.goto (-43), 3) := by decide +kernel
theorem dX3_dishTaste_56 : decode cX3_dishTaste 56 = .ok (.iload_n 1, 1) := by decide +kernel
theorem dX3_dishTaste_57 : decode cX3_dishTaste 57 = .ok (.ireturn, 1) := by decide +kernel
set_option maxRecDepth 20000 in
theorem ggX3_servingObstacle_X5_allSteps : GoodIn wsX3_servingObstacle wsX5_allSteps := goodIn_r _ [7, 8, 37, 38, 39, 40, 41, 42, 43, 44, 45, 46, 47, 48, 49, 50, 51, 52, 53, 54, 55, 56] rfl (by decide +kernel)
set_option maxRecDepth 20000 in
theorem gX3_servingObstacle_X5_allSteps : GoodIn wsX3_servingObstacle (wsV RX3 51 RX5 yX5_allSteps wsX5_allSteps) := goodIn_app (goodIn_of _ (by decide +kernel)) ggX3_servingObstacle_X5_allSteps
set_option maxRecDepth 20000 in
theorem ggX3_servingObstacle_X3_dishTaste : GoodIn wsX3_servingObstacle wsX3_dishTaste := goodIn_r _ [13, 1, 2, 14, 15, 16, 17, 18, 19, 20, 21, 22, 23, 24, 25, 26, 27, 28, 29, 30, 31, 32, 33, 34, 35, 36, 37, 38, 39, 40, 41, 42, 43, 44, 45, 46, 47, 48, 49, 50, 51, 52, 53, 54, 55, 56] rfl (by decide +kernel)
set_option maxRecDepth 20000 in
theorem gX3_servingObstacle_X3_dishTaste : GoodIn wsX3_servingObstacle (wsV RX3 200 RX3 yX3_dishTaste wsX3_dishTaste) := goodIn_app (goodIn_of _ (by decide +kernel)) ggX3_servingObstacle_X3_dishTaste
theorem dX3_servingObstacle_0 : decode cX3_servingObstacle 0 = .ok (.aload_n 0, 1) := by decide +kernel
theorem dX3_servingObstacle_1 : decode cX3_servingObstacle 1 = .ok (.getfield 12, 3) := by decide +kernel
theorem dX3_servingObstacle_4 : decode cX3_servingObstacle 4 = .ok (.getfield 59, 3) := by decide +kernel
theorem dX3_servingObstacle_7 : decode cX3_servingObstacle 7 = .ok (.ifCond .eq 5, 3) := by decide +kernel
theorem dX3_servingObstacle_10 : decode cX3_servingObstacle 10 = .ok (.iconst 1, 1) := by decide +kernel
theorem dX3_servingObstacle_11 : decode cX3_servingObstacle 11 = .ok (.ireturn, 1) := by decide +kernel
theorem dX3_servingObstacle_12 : decode cX3_servingObstacle 12 = .ok (.aload_n 0, 1) := by decide +kernel
theorem dX3_servingObstacle_13 : decode cX3_servingObstacle 13 = .ok (.getfield 12, 3) := by decide +kernel
theorem dX3_servingObstacle_16 : decode cX3_servingObstacle 16 = .ok (.getfield 197, 3) := by decide +kernel
theorem dX3_servingObstacle_19 : decode cX3_servingObstacle 19 = .ok (.ifCond .eq 5, 3) := by decide +kernel
theorem dX3_servingObstacle_22 : decode cX3_servingObstacle 22 = .ok (.iconst 2, 1) := by decide +kernel
theorem dX3_servingObstacle_23 : decode cX3_servingObstacle 23 = .ok (.ireturn, 1) := by decide +kernel
theorem dX3_servingObstacle_24 : decode cX3_servingObstacle 24 = .ok (.aload_n 0, 1) := by decide +kernel
theorem dX3_servingObstacle_25 : decode cX3_servingObstacle 25 = .ok (.getfield 12, 3) := by decide +kernel
theorem dX3_servingObstacle_28 : decode cX3_servingObstacle 28 = .ok (.getfield 47, 3) := by decide +kernel
theorem dX3_servingObstacle_31 : decode cX3_servingObstacle 31 = .ok (.aload_n 0, 1) := by decide +kernel
theorem dX3_servingObstacle_32 : decode cX3_servingObstacle 32 = .ok (.getfield 28, 3) := by decide +kernel
theorem dX3_servingObstacle_35 : decode cX3_servingObstacle 35 = .ok (.invokevirtual 51, 3) := by decide +kernel
theorem dX3_servingObstacle_38 : decode cX3_servingObstacle 38 = .ok (.if_icmp .eq 5, 3) := by decide +kernel
theorem dX3_servingObstacle_41 : decode cX3_servingObstacle 41 = .ok (.iconst 3, 1) := by decide +kernel
theorem dX3_servingObstacle_42 : decode cX3_servingObstacle 42 = .ok (.ireturn, 1) := by decide +kernel
theorem dX3_servingObstacle_43 : decode cX3_servingObstacle 43 = .ok (.aload_n 0, 1) := by decide +kernel
theorem dX3_servingObstacle_44 : decode cX3_servingObstacle 44 = .ok (.invokevirtual 200, 3) := by decide +kernel
theorem dX3_servingObstacle_47 : decode cX3_servingObstacle 47 = .ok (.aload_n 0, 1) := by decide +kernel
theorem dX3_servingObstacle_48 : decode cX3_servingObstacle 48 = .ok (.getfield 28, 3) := by decide +kernel
theorem dX3_servingObstacle_51 : decode cX3_servingObstacle 51 = .ok (.getfield 203, 3) := by decide +kernel
theorem dX3_servingObstacle_54 : decode cX3_servingObstacle 54 = .ok (.if_icmp .ge 5, 3) := by decide +kernel
theorem dX3_servingObstacle_57 : decode cX3_servingObstacle 57 = .ok (.iconst 4, 1) := by decide +kernel
theorem dX3_servingObstacle_58 : decode cX3_servingObstacle 58 = .ok (.ireturn, 1) := by decide +kernel
theorem dX3_servingObstacle_59 : decode cX3_servingObstacle 59 = .ok (.aload_n 0, 1) := by decide +kernel
theorem dX3_servingObstacle_60 : decode cX3_servingObstacle 60 = .ok (.invokevirtual 200, 3) := by decide +kernel
theorem dX3_servingObstacle_63 : decode cX3_servingObstacle 63 = .ok (.aload_n 0, 1) := by decide +kernel
theorem dX3_servingObstacle_64 : decode cX3_servingObstacle 64 = .ok (.getfield 28, 3) := by decide +kernel
theorem dX3_servingObstacle_67 : decode cX3_servingObstacle 67 = .ok (.getfield 206, 3) := by decide +kernel
theorem dX3_servingObstacle_70 : decode cX3_servingObstacle 70 = .ok (.if_icmp .le 7, 3) := by decide +kernel
theorem dX3_servingObstacle_73 : decode cX3_servingObstacle 73 = .ok (.iconst 5, 1) := by decide +kernel
theorem dX3_servingObstacle_74 : decode cX3_servingObstacle 74 = .ok (.goto 4, 3) := by decide +kernel
theorem dX3_servingObstacle_77 : decode cX3_servingObstacle 77 = .ok (.iconst 0, 1) := by decide +kernel
theorem dX3_servingObstacle_78 : decode cX3_servingObstacle 78 = .ok (.ireturn, 1) := by decide +kernel
set_option maxRecDepth 20000 in
theorem ggX3_prematureSteps_X11_contains : GoodIn wsX3_prematureSteps wsX11_contains := goodIn_r _ [5] rfl (by decide +kernel)
set_option maxRecDepth 20000 in
theorem gX3_prematureSteps_X11_contains_n100 : GoodIn wsX3_prematureSteps (wsX11_contains) := ggX3_prematureSteps_X11_contains
theorem dX3_prematureSteps_0 : decode cX3_prematureSteps 0 = .ok (.iconst 0, 1) := by decide +kernel
theorem dX3_prematureSteps_1 : decode cX3_prematureSteps 1 = .ok (.istore_n 1, 1) := by decide +kernel
theorem dX3_prematureSteps_2 : decode cX3_prematureSteps 2 = .ok (.iconst 0, 1) := by decide +kernel
theorem dX3_prematureSteps_3 : decode cX3_prematureSteps 3 = .ok (.istore_n 2, 1) := by decide +kernel
theorem dX3_prematureSteps_4 : decode cX3_prematureSteps 4 = .ok (.iload_n 2, 1) := by decide +kernel
theorem dX3_prematureSteps_5 : decode cX3_prematureSteps 5 = .ok (.aload_n 0, 1) := by decide +kernel
theorem dX3_prematureSteps_6 : decode cX3_prematureSteps 6 = .ok (.getfield 28, 3) := by decide +kernel
theorem dX3_prematureSteps_9 : decode cX3_prematureSteps 9 = .ok (.getfield 91, 3) := by decide +kernel
theorem dX3_prematureSteps_12 : decode cX3_prematureSteps 12 = .ok (.getfield 95, 3) := by decide +kernel
theorem dX3_prematureSteps_15 : decode cX3_prematureSteps 15 = .ok (.if_icmp .ge 27, 3) := by decide +kernel
theorem dX3_prematureSteps_18 : decode cX3_prematureSteps 18 = .ok (.aload_n 0, 1) := by decide +kernel
theorem dX3_prematureSteps_19 : decode cX3_prematureSteps 19 = .ok (.getfield 12, 3) := by decide +kernel
theorem dX3_prematureSteps_22 : decode cX3_prematureSteps 22 = .ok (.getfield 209, 3) := by decide +kernel
theorem dX3_prematureSteps_25 : decode cX3_prematureSteps 25 = .ok (.iload_n 2, 1) := by decide +kernel
theorem dX3_prematureSteps_26 : decode cX3_prematureSteps 26 = .ok (.iaload, 1) := by decide +kernel
theorem dX3_prematureSteps_27 : decode cX3_prematureSteps 27 = .ok (.ifCond .le 9, 3) := by decide +kernel
theorem dX3_prematureSteps_30 : decode cX3_prematureSteps 30 = .ok (.iload_n 1, 1) := by decide +kernel
theorem dX3_prematureSteps_31 : decode cX3_prematureSteps 31 = .ok (.iconst 1, 1) := by decide +kernel
theorem dX3_prematureSteps_32 : decode cX3_prematureSteps 32 = .ok (.iload_n 2, 1) := by decide +kernel
theorem dX3_prematureSteps_33 : decode cX3_prematureSteps 33 = .ok (.ishl, 1) := by decide +kernel
theorem dX3_prematureSteps_34 : decode cX3_prematureSteps 34 = .ok (.ior, 1) := by decide +kernel
theorem dX3_prematureSteps_35 : decode cX3_prematureSteps 35 = .ok (.istore_n 1, 1) := by decide +kernel
theorem dX3_prematureSteps_36 : decode cX3_prematureSteps 36 = .ok (.iinc 2 1, 3) := by decide +kernel
theorem dX3_prematureSteps_39 : decode cX3_prematureSteps 39 = .ok (.goto (-35), 3) := by decide +kernel
theorem dX3_prematureSteps_42 : decode cX3_prematureSteps 42 = .ok (.iconst 0, 1) := by decide +kernel
theorem dX3_prematureSteps_43 : decode cX3_prematureSteps 43 = .ok (.istore_n 2, 1) := by decide +kernel
theorem dX3_prematureSteps_44 : decode cX3_prematureSteps 44 = .ok (.iconst 0, 1) := by decide +kernel
theorem dX3_prematureSteps_45 : decode cX3_prematureSteps 45 = .ok (.istore_n 3, 1) := by decide +kernel
theorem dX3_prematureSteps_46 : decode cX3_prematureSteps 46 = .ok (.iload_n 3, 1) := by decide +kernel
theorem dX3_prematureSteps_47 : decode cX3_prematureSteps 47 = .ok (.aload_n 0, 1) := by decide +kernel
theorem dX3_prematureSteps_48 : decode cX3_prematureSteps 48 = .ok (.getfield 28, 3) := by decide +kernel
theorem dX3_prematureSteps_51 : decode cX3_prematureSteps 51 = .ok (.getfield 91, 3) := by decide +kernel
theorem dX3_prematureSteps_54 : decode cX3_prematureSteps 54 = .ok (.getfield 95, 3) := by decide +kernel
theorem dX3_prematureSteps_57 : decode cX3_prematureSteps 57 = .ok (.if_icmp .ge 42, 3) := by decide +kernel
theorem dX3_prematureSteps_60 : decode cX3_prematureSteps 60 = .ok (.aload_n 0, 1) := by decide +kernel
theorem dX3_prematureSteps_61 : decode cX3_prematureSteps 61 = .ok (.getfield 12, 3) := by decide +kernel
theorem dX3_prematureSteps_64 : decode cX3_prematureSteps 64 = .ok (.getfield 82, 3) := by decide +kernel
theorem dX3_prematureSteps_67 : decode cX3_prematureSteps 67 = .ok (.iload_n 3, 1) := by decide +kernel
theorem dX3_prematureSteps_68 : decode cX3_prematureSteps 68 = .ok (.invokestatic 100, 3) := by decide +kernel
theorem dX3_prematureSteps_71 : decode cX3_prematureSteps 71 = .ok (.ifCond .eq 22, 3) := by decide +kernel
theorem dX3_prematureSteps_74 : decode cX3_prematureSteps 74 = .ok (.aload_n 0, 1) := by decide +kernel
theorem dX3_prematureSteps_75 : decode cX3_prematureSteps 75 = .ok (.getfield 28, 3) := by decide +kernel
theorem dX3_prematureSteps_78 : decode cX3_prematureSteps 78 = .ok (.getfield 138, 3) := by decide +kernel
theorem dX3_prematureSteps_81 : decode cX3_prematureSteps 81 = .ok (.iload_n 3, 1) := by decide +kernel
theorem dX3_prematureSteps_82 : decode cX3_prematureSteps 82 = .ok (.iaload, 1) := by decide +kernel
theorem dX3_prematureSteps_83 : decode cX3_prematureSteps 83 = .ok (.iload_n 1, 1) := by decide +kernel
theorem dX3_prematureSteps_84 : decode cX3_prematureSteps 84 = .ok (.iconst (-1), 1) := by decide +kernel
theorem dX3_prematureSteps_85 : decode cX3_prematureSteps 85 = .ok (.ixor, 1) := by decide +kernel
theorem dX3_prematureSteps_86 : decode cX3_prematureSteps 86 = .ok (.iand, 1) := by decide +kernel
theorem dX3_prematureSteps_87 : decode cX3_prematureSteps 87 = .ok (.ifCond .eq 6, 3) := by decide +kernel
theorem dX3_prematureSteps_90 : decode cX3_prematureSteps 90 = .ok (.iinc 2 1, 3) := by decide +kernel
theorem dX3_prematureSteps_93 : decode cX3_prematureSteps 93 = .ok (.iinc 3 1, 3) := by decide +kernel
theorem dX3_prematureSteps_96 : decode cX3_prematureSteps 96 = .ok (.goto (-50), 3) := by decide +kernel
theorem dX3_prematureSteps_99 : decode cX3_prematureSteps 99 = .ok (.iload_n 2, 1) := by decide +kernel
theorem dX3_prematureSteps_100 : decode cX3_prematureSteps 100 = .ok (.ireturn, 1) := by decide +kernel
theorem dX4_init_0 : decode cX4_init 0 = .ok (.aload_n 0, 1) := by decide +kernel
theorem dX4_init_1 : decode cX4_init 1 = .ok (.invokespecial 3, 3) := by decide +kernel
theorem dX4_init_4 : decode cX4_init 4 = .ok (.aload_n 0, 1) := by decide +kernel
theorem dX4_init_5 : decode cX4_init 5 = .ok (.iload_n 1, 1) := by decide +kernel
theorem dX4_init_6 : decode cX4_init 6 = .ok (.bipush 6, 2) := by decide +kernel
theorem dX4_init_8 : decode cX4_init 8 = .ok (.multianewarray 9 2, 4) := by decide +kernel
theorem dX4_init_12 : decode cX4_init 12 = .ok (.putfield 11, 3) := by decide +kernel
theorem dX4_init_15 : decode cX4_init 15 = .ok (.aload_n 0, 1) := by decide +kernel
theorem dX4_init_16 : decode cX4_init 16 = .ok (.iload_n 1, 1) := by decide +kernel
theorem dX4_init_17 : decode cX4_init 17 = .ok (.newarray .int, 2) := by decide +kernel
theorem dX4_init_19 : decode cX4_init 19 = .ok (.putfield 16, 3) := by decide +kernel
theorem dX4_init_22 : decode cX4_init 22 = .ok (.return_, 1) := by decide +kernel
theorem dX4_isFull_0 : decode cX4_isFull 0 = .ok (.aload_n 0, 1) := by decide +kernel
theorem dX4_isFull_1 : decode cX4_isFull 1 = .ok (.getfield 20, 3) := by decide +kernel
theorem dX4_isFull_4 : decode cX4_isFull 4 = .ok (.aload_n 0, 1) := by decide +kernel
theorem dX4_isFull_5 : decode cX4_isFull 5 = .ok (.getfield 16, 3) := by decide +kernel
theorem dX4_isFull_8 : decode cX4_isFull 8 = .ok (.arraylength, 1) := by decide +kernel
theorem dX4_isFull_9 : decode cX4_isFull 9 = .ok (.if_icmp .lt 7, 3) := by decide +kernel
theorem dX4_isFull_12 : decode cX4_isFull 12 = .ok (.iconst 1, 1) := by decide +kernel
theorem dX4_isFull_13 : decode cX4_isFull 13 = .ok (.goto 4, 3) := by decide +kernel
theorem dX4_isFull_16 : decode cX4_isFull 16 = .ok (.iconst 0, 1) := by decide +kernel
theorem dX4_isFull_17 : decode cX4_isFull 17 = .ok (.ireturn, 1) := by decide +kernel
set_option maxRecDepth 20000 in
theorem ggX4_indexOf_X4_matches : GoodIn wsX4_indexOf wsX4_matches := goodIn_r _ [7, 2, 8, 9, 10, 11, 12, 13] rfl (by decide +kernel)
set_option maxRecDepth 20000 in
theorem gX4_indexOf_X4_matches : GoodIn wsX4_indexOf (wsV RX4 24 RX4 yX4_matches wsX4_matches) := goodIn_app (goodIn_of _ (by decide +kernel)) ggX4_indexOf_X4_matches
theorem dX4_indexOf_0 : decode cX4_indexOf 0 = .ok (.iconst 0, 1) := by decide +kernel
theorem dX4_indexOf_1 : decode cX4_indexOf 1 = .ok (.istore 4, 2) := by decide +kernel
theorem dX4_indexOf_3 : decode cX4_indexOf 3 = .ok (.iload 4, 2) := by decide +kernel
theorem dX4_indexOf_5 : decode cX4_indexOf 5 = .ok (.aload_n 0, 1) := by decide +kernel
theorem dX4_indexOf_6 : decode cX4_indexOf 6 = .ok (.getfield 20, 3) := by decide +kernel
theorem dX4_indexOf_9 : decode cX4_indexOf 9 = .ok (.if_icmp .ge 36, 3) := by decide +kernel
theorem dX4_indexOf_12 : decode cX4_indexOf 12 = .ok (.aload_n 0, 1) := by decide +kernel
theorem dX4_indexOf_13 : decode cX4_indexOf 13 = .ok (.getfield 16, 3) := by decide +kernel
theorem dX4_indexOf_16 : decode cX4_indexOf 16 = .ok (.iload 4, 2) := by decide +kernel
theorem dX4_indexOf_18 : decode cX4_indexOf 18 = .ok (.iaload, 1) := by decide +kernel
theorem dX4_indexOf_19 : decode cX4_indexOf 19 = .ok (.iload_n 3, 1) := by decide +kernel
theorem dX4_indexOf_20 : decode cX4_indexOf 20 = .ok (.iload_n 2, 1) := by decide +kernel
theorem dX4_indexOf_21 : decode cX4_indexOf 21 = .ok (.isub, 1) := by decide +kernel
theorem dX4_indexOf_22 : decode cX4_indexOf 22 = .ok (.if_icmp .ne 17, 3) := by decide +kernel
theorem dX4_indexOf_25 : decode cX4_indexOf 25 = .ok (.aload_n 0, 1) := by decide +kernel
theorem dX4_indexOf_26 : decode cX4_indexOf 26 = .ok (.iload 4, 2) := by decide +kernel
theorem dX4_indexOf_28 : decode cX4_indexOf 28 = .ok (.aload_n 1, 1) := by decide +kernel
theorem dX4_indexOf_29 : decode cX4_indexOf 29 = .ok (.iload_n 2, 1) := by decide +kernel
theorem dX4_indexOf_30 : decode cX4_indexOf 30 = .ok (.invokevirtual 24, 3) := by decide +kernel
theorem dX4_indexOf_33 : decode cX4_indexOf 33 = .ok (.ifCond .eq 6, 3) := by decide +kernel
theorem dX4_indexOf_36 : decode cX4_indexOf 36 = .ok (.iload 4, 2) := by decide +kernel
theorem dX4_indexOf_38 : decode cX4_indexOf 38 = .ok (.ireturn, 1) := by decide +kernel
theorem dX4_indexOf_39 : decode cX4_indexOf 39 = .ok (.iinc 4 1, 3) := by decide +kernel
theorem dX4_indexOf_42 : decode cX4_indexOf 42 = .ok (.goto (-39), 3) := by decide +kernel
theorem dX4_indexOf_45 : decode cX4_indexOf 45 = .ok (.iconst (-1), 1) := by decide +kernel
theorem dX4_indexOf_46 : decode cX4_indexOf 46 = .ok (.ireturn, 1) := by decide +kernel
theorem dX4_matches_0 : decode cX4_matches 0 = .ok (.iconst 0, 1) := by decide +kernel
theorem dX4_matches_1 : decode cX4_matches 1 = .ok (.istore 4, 2) := by decide +kernel
theorem dX4_matches_3 : decode cX4_matches 3 = .ok (.iload 4, 2) := by decide +kernel
theorem dX4_matches_5 : decode cX4_matches 5 = .ok (.aload_n 0, 1) := by decide +kernel
theorem dX4_matches_6 : decode cX4_matches 6 = .ok (.getfield 16, 3) := by decide +kernel
theorem dX4_matches_9 : decode cX4_matches 9 = .ok (.iload_n 1, 1) := by decide +kernel
theorem dX4_matches_10 : decode cX4_matches 10 = .ok (.iaload, 1) := by decide +kernel
theorem dX4_matches_11 : decode cX4_matches 11 = .ok (.if_icmp .ge 32, 3) := by decide +kernel
theorem dX4_matches_14 : decode cX4_matches 14 = .ok (.aload_n 0, 1) := by decide +kernel
theorem dX4_matches_15 : decode cX4_matches 15 = .ok (.getfield 11, 3) := by decide +kernel
theorem dX4_matches_18 : decode cX4_matches 18 = .ok (.iload_n 1, 1) := by decide +kernel
theorem dX4_matches_19 : decode cX4_matches 19 = .ok (.aaload, 1) := by decide +kernel
theorem dX4_matches_20 : decode cX4_matches 20 = .ok (.iload 4, 2) := by decide +kernel
theorem dX4_matches_22 : decode cX4_matches 22 = .ok (.baload, 1) := by decide +kernel
theorem dX4_matches_23 : decode cX4_matches 23 = .ok (.aload_n 2, 1) := by decide +kernel
theorem dX4_matches_24 : decode cX4_matches 24 = .ok (.getfield 28, 3) := by decide +kernel
theorem dX4_matches_27 : decode cX4_matches 27 = .ok (.iload_n 3, 1) := by decide +kernel
theorem dX4_matches_28 : decode cX4_matches 28 = .ok (.iload 4, 2) := by decide +kernel
theorem dX4_matches_30 : decode cX4_matches 30 = .ok (.iadd, 1) := by decide +kernel
theorem dX4_matches_31 : decode cX4_matches 31 = .ok (.baload, 1) := by decide +kernel
theorem dX4_matches_32 : decode cX4_matches 32 = .ok (.if_icmp .eq 5, 3) := by decide +kernel
theorem dX4_matches_35 : decode cX4_matches 35 = .ok (.iconst 0, 1) := by decide +kernel
theorem dX4_matches_36 : decode cX4_matches 36 = .ok (.ireturn, 1) := by decide +kernel
theorem dX4_matches_37 : decode cX4_matches 37 = .ok (.iinc 4 1, 3) := by decide +kernel
theorem dX4_matches_40 : decode cX4_matches 40 = .ok (.goto (-37), 3) := by decide +kernel
theorem dX4_matches_43 : decode cX4_matches 43 = .ok (.iconst 1, 1) := by decide +kernel
theorem dX4_matches_44 : decode cX4_matches 44 = .ok (.ireturn, 1) := by decide +kernel
set_option maxRecDepth 20000 in
theorem ggX4_prepare_X4_isFull : GoodIn wsX4_prepare wsX4_isFull := goodIn_r _ [8, 2, 1, 9, 10, 11] rfl (by decide +kernel)
set_option maxRecDepth 20000 in
theorem gX4_prepare_X4_isFull : GoodIn wsX4_prepare (wsV RX4 34 RX4 yX4_isFull wsX4_isFull) := goodIn_app (goodIn_of _ (by decide +kernel)) ggX4_prepare_X4_isFull
theorem dX4_prepare_0 : decode cX4_prepare 0 = .ok (.aload_n 0, 1) := by decide +kernel
theorem dX4_prepare_1 : decode cX4_prepare 1 = .ok (.invokevirtual 34, 3) := by decide +kernel
theorem dX4_prepare_4 : decode cX4_prepare 4 = .ok (.ifCond .ne 11, 3) := by decide +kernel
theorem dX4_prepare_7 : decode cX4_prepare 7 = .ok (.iload_n 3, 1) := by decide +kernel
theorem dX4_prepare_8 : decode cX4_prepare 8 = .ok (.iload_n 2, 1) := by decide +kernel
theorem dX4_prepare_9 : decode cX4_prepare 9 = .ok (.isub, 1) := by decide +kernel
theorem dX4_prepare_10 : decode cX4_prepare 10 = .ok (.bipush 6, 2) := by decide +kernel
theorem dX4_prepare_12 : decode cX4_prepare 12 = .ok (.if_icmp .le 4, 3) := by decide +kernel
theorem dX4_prepare_15 : decode cX4_prepare 15 = .ok (.return_, 1) := by decide +kernel
theorem dX4_prepare_16 : decode cX4_prepare 16 = .ok (.aload_n 0, 1) := by decide +kernel
theorem dX4_prepare_17 : decode cX4_prepare 17 = .ok (.getfield 16, 3) := by decide +kernel
theorem dX4_prepare_20 : decode cX4_prepare 20 = .ok (.aload_n 0, 1) := by decide +kernel
theorem dX4_prepare_21 : decode cX4_prepare 21 = .ok (.getfield 20, 3) := by decide +kernel
theorem dX4_prepare_24 : decode cX4_prepare 24 = .ok (.iload_n 3, 1) := by decide +kernel
theorem dX4_prepare_25 : decode cX4_prepare 25 = .ok (.iload_n 2, 1) := by decide +kernel
theorem dX4_prepare_26 : decode cX4_prepare 26 = .ok (.isub, 1) := by decide +kernel
theorem dX4_prepare_27 : decode cX4_prepare 27 = .ok (.iastore, 1) := by decide +kernel
theorem dX4_prepare_28 : decode cX4_prepare 28 = .ok (.iconst 0, 1) := by decide +kernel
theorem dX4_prepare_29 : decode cX4_prepare 29 = .ok (.istore 4, 2) := by decide +kernel
theorem dX4_prepare_31 : decode cX4_prepare 31 = .ok (.iload 4, 2) := by decide +kernel
theorem dX4_prepare_33 : decode cX4_prepare 33 = .ok (.iload_n 3, 1) := by decide +kernel
theorem dX4_prepare_34 : decode cX4_prepare 34 = .ok (.iload_n 2, 1) := by decide +kernel
theorem dX4_prepare_35 : decode cX4_prepare 35 = .ok (.isub, 1) := by decide +kernel
theorem dX4_prepare_36 : decode cX4_prepare 36 = .ok (.if_icmp .ge 30, 3) := by decide +kernel
theorem dX4_prepare_39 : decode cX4_prepare 39 = .ok (.aload_n 0, 1) := by decide +kernel
theorem dX4_prepare_40 : decode cX4_prepare 40 = .ok (.getfield 11, 3) := by decide +kernel
theorem dX4_prepare_43 : decode cX4_prepare 43 = .ok (.aload_n 0, 1) := by decide +kernel
theorem dX4_prepare_44 : decode cX4_prepare 44 = .ok (.getfield 20, 3) := by decide +kernel
theorem dX4_prepare_47 : decode cX4_prepare 47 = .ok (.aaload, 1) := by decide +kernel
theorem dX4_prepare_48 : decode cX4_prepare 48 = .ok (.iload 4, 2) := by decide +kernel
theorem dX4_prepare_50 : decode cX4_prepare 50 = .ok (.aload_n 1, 1) := by decide +kernel
theorem dX4_prepare_51 : decode cX4_prepare 51 = .ok (.getfield 28, 3) := by decide +kernel
theorem dX4_prepare_54 : decode cX4_prepare 54 = .ok (.iload_n 2, 1) := by decide +kernel
theorem dX4_prepare_55 : decode cX4_prepare 55 = .ok (.iload 4, 2) := by decide +kernel
theorem dX4_prepare_57 : decode cX4_prepare 57 = .ok (.iadd, 1) := by decide +kernel
theorem dX4_prepare_58 : decode cX4_prepare 58 = .ok (.baload, 1) := by decide +kernel
theorem dX4_prepare_59 : decode cX4_prepare 59 = .ok (.bastore, 1) := by decide +kernel
theorem dX4_prepare_60 : decode cX4_prepare 60 = .ok (.iinc 4 1, 3) := by decide +kernel
theorem dX4_prepare_63 : decode cX4_prepare 63 = .ok (.goto (-32), 3) := by decide +kernel
theorem dX4_prepare_66 : decode cX4_prepare 66 = .ok (.return_, 1) := by decide +kernel
set_option maxRecDepth 20000 in
theorem ggX4_copyTo_X9_addByte : GoodIn wsX4_copyTo wsX9_addByte := goodIn_r _ [7, 8, 9, 13, 14] rfl (by decide +kernel)
set_option maxRecDepth 20000 in
theorem gX4_copyTo_X9_addByte : GoodIn wsX4_copyTo (wsV RX4 38 RX9 yX9_addByte wsX9_addByte) := goodIn_app (goodIn_of _ (by decide +kernel)) ggX4_copyTo_X9_addByte
theorem dX4_copyTo_0 : decode cX4_copyTo 0 = .ok (.iconst 0, 1) := by decide +kernel
theorem dX4_copyTo_1 : decode cX4_copyTo 1 = .ok (.istore_n 3, 1) := by decide +kernel
theorem dX4_copyTo_2 : decode cX4_copyTo 2 = .ok (.iload_n 3, 1) := by decide +kernel
theorem dX4_copyTo_3 : decode cX4_copyTo 3 = .ok (.aload_n 0, 1) := by decide +kernel
theorem dX4_copyTo_4 : decode cX4_copyTo 4 = .ok (.getfield 16, 3) := by decide +kernel
theorem dX4_copyTo_7 : decode cX4_copyTo 7 = .ok (.iload_n 2, 1) := by decide +kernel
theorem dX4_copyTo_8 : decode cX4_copyTo 8 = .ok (.iaload, 1) := by decide +kernel
theorem dX4_copyTo_9 : decode cX4_copyTo 9 = .ok (.if_icmp .ge 21, 3) := by decide +kernel
theorem dX4_copyTo_12 : decode cX4_copyTo 12 = .ok (.aload_n 1, 1) := by decide +kernel
theorem dX4_copyTo_13 : decode cX4_copyTo 13 = .ok (.aload_n 0, 1) := by decide +kernel
theorem dX4_copyTo_14 : decode cX4_copyTo 14 = .ok (.getfield 11, 3) := by decide +kernel
theorem dX4_copyTo_17 : decode cX4_copyTo 17 = .ok (.iload_n 2, 1) := by decide +kernel
theorem dX4_copyTo_18 : decode cX4_copyTo 18 = .ok (.aaload, 1) := by decide +kernel
theorem dX4_copyTo_19 : decode cX4_copyTo 19 = .ok (.iload_n 3, 1) := by decide +kernel
theorem dX4_copyTo_20 : decode cX4_copyTo 20 = .ok (.baload, 1) := by decide +kernel
theorem dX4_copyTo_21 : decode cX4_copyTo 21 = .ok (.invokevirtual 38, 3) := by decide +kernel
theorem dX4_copyTo_24 : decode cX4_copyTo 24 = .ok (.iinc 3 1, 3) := by decide +kernel
theorem dX4_copyTo_27 : decode cX4_copyTo 27 = .ok (.goto (-25), 3) := by decide +kernel
theorem dX4_copyTo_30 : decode cX4_copyTo 30 = .ok (.return_, 1) := by decide +kernel
set_option maxRecDepth 20000 in
theorem ggX5_init_X4_init : GoodIn wsX5_init wsX4_init := goodIn_r _ [22, 23, 2, 3, 24, 25, 26, 8, 27, 28, 29, 30] rfl (by decide +kernel)
set_option maxRecDepth 20000 in
theorem gX5_init_X4_init : GoodIn wsX5_init (wsX4_init) := ggX5_init_X4_init
theorem dX5_init_0 : decode cX5_init 0 = .ok (.aload_n 0, 1) := by decide +kernel
theorem dX5_init_1 : decode cX5_init 1 = .ok (.invokespecial 3, 3) := by decide +kernel
theorem dX5_init_4 : decode cX5_init 4 = .ok (.aload_n 0, 1) := by decide +kernel
theorem dX5_init_5 : decode cX5_init 5 = .ok (.new 9, 3) := by decide +kernel
theorem dX5_init_8 : decode cX5_init 8 = .ok (.dup, 1) := by decide +kernel
theorem dX5_init_9 : decode cX5_init 9 = .ok (.iconst 4, 1) := by decide +kernel
theorem dX5_init_10 : decode cX5_init 10 = .ok (.invokespecial 11, 3) := by decide +kernel
theorem dX5_init_13 : decode cX5_init 13 = .ok (.putfield 14, 3) := by decide +kernel
theorem dX5_init_16 : decode cX5_init 16 = .ok (.aload_n 0, 1) := by decide +kernel
theorem dX5_init_17 : decode cX5_init 17 = .ok (.iconst 4, 1) := by decide +kernel
theorem dX5_init_18 : decode cX5_init 18 = .ok (.newarray .int, 2) := by decide +kernel
theorem dX5_init_20 : decode cX5_init 20 = .ok (.putfield 20, 3) := by decide +kernel
theorem dX5_init_23 : decode cX5_init 23 = .ok (.aload_n 0, 1) := by decide +kernel
theorem dX5_init_24 : decode cX5_init 24 = .ok (.iconst 4, 1) := by decide +kernel
theorem dX5_init_25 : decode cX5_init 25 = .ok (.newarray .int, 2) := by decide +kernel
theorem dX5_init_27 : decode cX5_init 27 = .ok (.putfield 24, 3) := by decide +kernel
theorem dX5_init_30 : decode cX5_init 30 = .ok (.aload_n 0, 1) := by decide +kernel
theorem dX5_init_31 : decode cX5_init 31 = .ok (.new 9, 3) := by decide +kernel
theorem dX5_init_34 : decode cX5_init 34 = .ok (.dup, 1) := by decide +kernel
theorem dX5_init_35 : decode cX5_init 35 = .ok (.bipush 14, 2) := by decide +kernel
theorem dX5_init_37 : decode cX5_init 37 = .ok (.invokespecial 11, 3) := by decide +kernel
theorem dX5_init_40 : decode cX5_init 40 = .ok (.putfield 27, 3) := by decide +kernel
theorem dX5_init_43 : decode cX5_init 43 = .ok (.aload_n 0, 1) := by decide +kernel
theorem dX5_init_44 : decode cX5_init 44 = .ok (.bipush 14, 2) := by decide +kernel
theorem dX5_init_46 : decode cX5_init 46 = .ok (.newarray .int, 2) := by decide +kernel
theorem dX5_init_48 : decode cX5_init 48 = .ok (.putfield 30, 3) := by decide +kernel
theorem dX5_init_51 : decode cX5_init 51 = .ok (.aload_n 0, 1) := by decide +kernel
theorem dX5_init_52 : decode cX5_init 52 = .ok (.bipush 14, 2) := by decide +kernel
theorem dX5_init_54 : decode cX5_init 54 = .ok (.newarray .int, 2) := by decide +kernel
theorem dX5_init_56 : decode cX5_init 56 = .ok (.putfield 33, 3) := by decide +kernel
theorem dX5_init_59 : decode cX5_init 59 = .ok (.aload_n 0, 1) := by decide +kernel
theorem dX5_init_60 : decode cX5_init 60 = .ok (.bipush 14, 2) := by decide +kernel
theorem dX5_init_62 : decode cX5_init 62 = .ok (.newarray .int, 2) := by decide +kernel
theorem dX5_init_64 : decode cX5_init 64 = .ok (.putfield 36, 3) := by decide +kernel
theorem dX5_init_67 : decode cX5_init 67 = .ok (.aload_n 0, 1) := by decide +kernel
theorem dX5_init_68 : decode cX5_init 68 = .ok (.bipush 14, 2) := by decide +kernel
theorem dX5_init_70 : decode cX5_init 70 = .ok (.iconst 4, 1) := by decide +kernel
theorem dX5_init_71 : decode cX5_init 71 = .ok (.multianewarray 39 2, 4) := by decide +kernel
theorem dX5_init_75 : decode cX5_init 75 = .ok (.putfield 41, 3) := by decide +kernel
theorem dX5_init_78 : decode cX5_init 78 = .ok (.aload_n 0, 1) := by decide +kernel
theorem dX5_init_79 : decode cX5_init 79 = .ok (.bipush 14, 2) := by decide +kernel
theorem dX5_init_81 : decode cX5_init 81 = .ok (.newarray .int, 2) := by decide +kernel
theorem dX5_init_83 : decode cX5_init 83 = .ok (.putfield 44, 3) := by decide +kernel
theorem dX5_init_86 : decode cX5_init 86 = .ok (.aload_n 0, 1) := by decide +kernel
theorem dX5_init_87 : decode cX5_init 87 = .ok (.bipush 14, 2) := by decide +kernel
theorem dX5_init_89 : decode cX5_init 89 = .ok (.newarray .int, 2) := by decide +kernel
theorem dX5_init_91 : decode cX5_init 91 = .ok (.putfield 47, 3) := by decide +kernel
theorem dX5_init_94 : decode cX5_init 94 = .ok (.aload_n 0, 1) := by decide +kernel
theorem dX5_init_95 : decode cX5_init 95 = .ok (.bipush 14, 2) := by decide +kernel
theorem dX5_init_97 : decode cX5_init 97 = .ok (.newarray .int, 2) := by decide +kernel
theorem dX5_init_99 : decode cX5_init 99 = .ok (.putfield 50, 3) := by decide +kernel
theorem dX5_init_102 : decode cX5_init 102 = .ok (.return_, 1) := by decide +kernel
set_option maxRecDepth 20000 in
theorem ggX5_clear_J7_fill_53178 : GoodIn wsX5_clear wsJ7_fill_53178 := goodIn_r _ [12] rfl (by decide +kernel)
set_option maxRecDepth 20000 in
theorem gX5_clear_J7_fill_53178 : GoodIn wsX5_clear (va_wsS RX5 63 yJ7_fill_53178 wsJ7_fill_53178) := goodIn_app (goodIn_of _ (by decide +kernel)) ggX5_clear_J7_fill_53178
theorem dX5_clear_0 : decode cX5_clear 0 = .ok (.aload_n 0, 1) := by decide +kernel
theorem dX5_clear_1 : decode cX5_clear 1 = .ok (.getfield 14, 3) := by decide +kernel
theorem dX5_clear_4 : decode cX5_clear 4 = .ok (.iconst 0, 1) := by decide +kernel
theorem dX5_clear_5 : decode cX5_clear 5 = .ok (.putfield 53, 3) := by decide +kernel
theorem dX5_clear_8 : decode cX5_clear 8 = .ok (.aload_n 0, 1) := by decide +kernel
theorem dX5_clear_9 : decode cX5_clear 9 = .ok (.getfield 27, 3) := by decide +kernel
theorem dX5_clear_12 : decode cX5_clear 12 = .ok (.iconst 0, 1) := by decide +kernel
theorem dX5_clear_13 : decode cX5_clear 13 = .ok (.putfield 53, 3) := by decide +kernel
theorem dX5_clear_16 : decode cX5_clear 16 = .ok (.aload_n 0, 1) := by decide +kernel
theorem dX5_clear_17 : decode cX5_clear 17 = .ok (.iconst 0, 1) := by decide +kernel
theorem dX5_clear_18 : decode cX5_clear 18 = .ok (.putfield 57, 3) := by decide +kernel
theorem dX5_clear_21 : decode cX5_clear 21 = .ok (.aload_n 0, 1) := by decide +kernel
theorem dX5_clear_22 : decode cX5_clear 22 = .ok (.iconst 0, 1) := by decide +kernel
theorem dX5_clear_23 : decode cX5_clear 23 = .ok (.putfield 60, 3) := by decide +kernel
theorem dX5_clear_26 : decode cX5_clear 26 = .ok (.aload_n 0, 1) := by decide +kernel
theorem dX5_clear_27 : decode cX5_clear 27 = .ok (.getfield 24, 3) := by decide +kernel
theorem dX5_clear_30 : decode cX5_clear 30 = .ok (.iconst 0, 1) := by decide +kernel
theorem dX5_clear_31 : decode cX5_clear 31 = .ok (.invokestatic 63, 3) := by decide +kernel
theorem dX5_clear_34 : decode cX5_clear 34 = .ok (.aload_n 0, 1) := by decide +kernel
theorem dX5_clear_35 : decode cX5_clear 35 = .ok (.getfield 44, 3) := by decide +kernel
theorem dX5_clear_38 : decode cX5_clear 38 = .ok (.iconst 0, 1) := by decide +kernel
theorem dX5_clear_39 : decode cX5_clear 39 = .ok (.invokestatic 63, 3) := by decide +kernel
theorem dX5_clear_42 : decode cX5_clear 42 = .ok (.aload_n 0, 1) := by decide +kernel
theorem dX5_clear_43 : decode cX5_clear 43 = .ok (.getfield 47, 3) := by decide +kernel
theorem dX5_clear_46 : decode cX5_clear 46 = .ok (.iconst 0, 1) := by decide +kernel
theorem dX5_clear_47 : decode cX5_clear 47 = .ok (.invokestatic 63, 3) := by decide +kernel
theorem dX5_clear_50 : decode cX5_clear 50 = .ok (.aload_n 0, 1) := by decide +kernel
theorem dX5_clear_51 : decode cX5_clear 51 = .ok (.getfield 50, 3) := by decide +kernel
theorem dX5_clear_54 : decode cX5_clear 54 = .ok (.iconst 0, 1) := by decide +kernel
theorem dX5_clear_55 : decode cX5_clear 55 = .ok (.invokestatic 63, 3) := by decide +kernel
theorem dX5_clear_58 : decode cX5_clear 58 = .ok (.return_, 1) := by decide +kernel
theorem dX5_addPredecessor_0 : decode cX5_addPredecessor 0 = .ok (.aload_n 0, 1) := by decide +kernel
theorem dX5_addPredecessor_1 : decode cX5_addPredecessor 1 = .ok (.getfield 41, 3) := by decide +kernel
theorem dX5_addPredecessor_4 : decode cX5_addPredecessor 4 = .ok (.iload_n 1, 1) := by decide +kernel
theorem dX5_addPredecessor_5 : decode cX5_addPredecessor 5 = .ok (.aaload, 1) := by decide +kernel
theorem dX5_addPredecessor_6 : decode cX5_addPredecessor 6 = .ok (.aload_n 0, 1) := by decide +kernel
theorem dX5_addPredecessor_7 : decode cX5_addPredecessor 7 = .ok (.getfield 44, 3) := by decide +kernel
theorem dX5_addPredecessor_10 : decode cX5_addPredecessor 10 = .ok (.iload_n 1, 1) := by decide +kernel
theorem dX5_addPredecessor_11 : decode cX5_addPredecessor 11 = .ok (.iaload, 1) := by decide +kernel
theorem dX5_addPredecessor_12 : decode cX5_addPredecessor 12 = .ok (.iload_n 2, 1) := by decide +kernel
theorem dX5_addPredecessor_13 : decode cX5_addPredecessor 13 = .ok (.iastore, 1) := by decide +kernel
theorem dX5_addPredecessor_14 : decode cX5_addPredecessor 14 = .ok (.aload_n 0, 1) := by decide +kernel
theorem dX5_addPredecessor_15 : decode cX5_addPredecessor 15 = .ok (.getfield 44, 3) := by decide +kernel
theorem dX5_addPredecessor_18 : decode cX5_addPredecessor 18 = .ok (.iload_n 1, 1) := by decide +kernel
theorem dX5_addPredecessor_19 : decode cX5_addPredecessor 19 = .ok (.dup2, 1) := by decide +kernel
theorem dX5_addPredecessor_20 : decode cX5_addPredecessor 20 = .ok (.iaload, 1) := by decide +kernel
theorem dX5_addPredecessor_21 : decode cX5_addPredecessor 21 = .ok (.iconst 1, 1) := by decide +kernel
theorem dX5_addPredecessor_22 : decode cX5_addPredecessor 22 = .ok (.iadd, 1) := by decide +kernel
theorem dX5_addPredecessor_23 : decode cX5_addPredecessor 23 = .ok (.iastore, 1) := by decide +kernel
theorem dX5_addPredecessor_24 : decode cX5_addPredecessor 24 = .ok (.aload_n 0, 1) := by decide +kernel
theorem dX5_addPredecessor_25 : decode cX5_addPredecessor 25 = .ok (.getfield 47, 3) := by decide +kernel
theorem dX5_addPredecessor_28 : decode cX5_addPredecessor 28 = .ok (.iload_n 1, 1) := by decide +kernel
theorem dX5_addPredecessor_29 : decode cX5_addPredecessor 29 = .ok (.dup2, 1) := by decide +kernel
theorem dX5_addPredecessor_30 : decode cX5_addPredecessor 30 = .ok (.iaload, 1) := by decide +kernel
theorem dX5_addPredecessor_31 : decode cX5_addPredecessor 31 = .ok (.iconst 1, 1) := by decide +kernel
theorem dX5_addPredecessor_32 : decode cX5_addPredecessor 32 = .ok (.iload_n 2, 1) := by decide +kernel
theorem dX5_addPredecessor_33 : decode cX5_addPredecessor 33 = .ok (.ishl, 1) := by decide +kernel
theorem dX5_addPredecessor_34 : decode cX5_addPredecessor 34 = .ok (.ior, 1) := by decide +kernel
theorem dX5_addPredecessor_35 : decode cX5_addPredecessor 35 = .ok (.iastore, 1) := by decide +kernel
theorem dX5_addPredecessor_36 : decode cX5_addPredecessor 36 = .ok (.aload_n 0, 1) := by decide +kernel
theorem dX5_addPredecessor_37 : decode cX5_addPredecessor 37 = .ok (.getfield 50, 3) := by decide +kernel
theorem dX5_addPredecessor_40 : decode cX5_addPredecessor 40 = .ok (.iload_n 2, 1) := by decide +kernel
theorem dX5_addPredecessor_41 : decode cX5_addPredecessor 41 = .ok (.dup2, 1) := by decide +kernel
theorem dX5_addPredecessor_42 : decode cX5_addPredecessor 42 = .ok (.iaload, 1) := by decide +kernel
theorem dX5_addPredecessor_43 : decode cX5_addPredecessor 43 = .ok (.iconst 1, 1) := by decide +kernel
theorem dX5_addPredecessor_44 : decode cX5_addPredecessor 44 = .ok (.iload_n 1, 1) := by decide +kernel
theorem dX5_addPredecessor_45 : decode cX5_addPredecessor 45 = .ok (.ishl, 1) := by decide +kernel
theorem dX5_addPredecessor_46 : decode cX5_addPredecessor 46 = .ok (.ior, 1) := by decide +kernel
theorem dX5_addPredecessor_47 : decode cX5_addPredecessor 47 = .ok (.iastore, 1) := by decide +kernel
theorem dX5_addPredecessor_48 : decode cX5_addPredecessor 48 = .ok (.return_, 1) := by decide +kernel
theorem dX5_allSteps_0 : decode cX5_allSteps 0 = .ok (.iconst 1, 1) := by decide +kernel
theorem dX5_allSteps_1 : decode cX5_allSteps 1 = .ok (.aload_n 0, 1) := by decide +kernel
theorem dX5_allSteps_2 : decode cX5_allSteps 2 = .ok (.getfield 27, 3) := by decide +kernel
theorem dX5_allSteps_5 : decode cX5_allSteps 5 = .ok (.getfield 53, 3) := by decide +kernel
theorem dX5_allSteps_8 : decode cX5_allSteps 8 = .ok (.ishl, 1) := by decide +kernel
theorem dX5_allSteps_9 : decode cX5_allSteps 9 = .ok (.iconst 1, 1) := by decide +kernel
theorem dX5_allSteps_10 : decode cX5_allSteps 10 = .ok (.isub, 1) := by decide +kernel
theorem dX5_allSteps_11 : decode cX5_allSteps 11 = .ok (.ireturn, 1) := by decide +kernel
set_option maxRecDepth 20000 in
theorem ggX5_allBefore_X11_contains : GoodIn wsX5_allBefore wsX11_contains := goodIn_r _ [4] rfl (by decide +kernel)
set_option maxRecDepth 20000 in
theorem gX5_allBefore_X11_contains_n69 : GoodIn wsX5_allBefore (wsX11_contains) := ggX5_allBefore_X11_contains
theorem dX5_allBefore_0 : decode cX5_allBefore 0 = .ok (.aload_n 0, 1) := by decide +kernel
theorem dX5_allBefore_1 : decode cX5_allBefore 1 = .ok (.getfield 47, 3) := by decide +kernel
theorem dX5_allBefore_4 : decode cX5_allBefore 4 = .ok (.iload_n 1, 1) := by decide +kernel
theorem dX5_allBefore_5 : decode cX5_allBefore 5 = .ok (.iaload, 1) := by decide +kernel
theorem dX5_allBefore_6 : decode cX5_allBefore 6 = .ok (.istore_n 2, 1) := by decide +kernel
theorem dX5_allBefore_7 : decode cX5_allBefore 7 = .ok (.iload_n 1, 1) := by decide +kernel
theorem dX5_allBefore_8 : decode cX5_allBefore 8 = .ok (.iconst 1, 1) := by decide +kernel
theorem dX5_allBefore_9 : decode cX5_allBefore 9 = .ok (.isub, 1) := by decide +kernel
theorem dX5_allBefore_10 : decode cX5_allBefore 10 = .ok (.istore_n 3, 1) := by decide +kernel
theorem dX5_allBefore_11 : decode cX5_allBefore 11 = .ok (.iload_n 3, 1) := by decide +kernel
theorem dX5_allBefore_12 : decode cX5_allBefore 12 = .ok (.ifCond .lt 26, 3) := by decide +kernel
theorem dX5_allBefore_15 : decode cX5_allBefore 15 = .ok (.iload_n 2, 1) := by decide +kernel
theorem dX5_allBefore_16 : decode cX5_allBefore 16 = .ok (.iload_n 3, 1) := by decide +kernel
theorem dX5_allBefore_17 : decode cX5_allBefore 17 = .ok (.invokestatic 69, 3) := by decide +kernel
theorem dX5_allBefore_20 : decode cX5_allBefore 20 = .ok (.ifCond .eq 12, 3) := by decide +kernel
theorem dX5_allBefore_23 : decode cX5_allBefore 23 = .ok (.iload_n 2, 1) := by decide +kernel
theorem dX5_allBefore_24 : decode cX5_allBefore 24 = .ok (.aload_n 0, 1) := by decide +kernel
theorem dX5_allBefore_25 : decode cX5_allBefore 25 = .ok (.getfield 47, 3) := by decide +kernel
theorem dX5_allBefore_28 : decode cX5_allBefore 28 = .ok (.iload_n 3, 1) := by decide +kernel
theorem dX5_allBefore_29 : decode cX5_allBefore 29 = .ok (.iaload, 1) := by decide +kernel
theorem dX5_allBefore_30 : decode cX5_allBefore 30 = .ok (.ior, 1) := by decide +kernel
theorem dX5_allBefore_31 : decode cX5_allBefore 31 = .ok (.istore_n 2, 1) := by decide +kernel
theorem dX5_allBefore_32 : decode cX5_allBefore 32 = .ok (.iinc 3 (-1), 3) := by decide +kernel
theorem dX5_allBefore_35 : decode cX5_allBefore 35 = .ok (.goto (-24), 3) := by decide +kernel
theorem dX5_allBefore_38 : decode cX5_allBefore 38 = .ok (.iload_n 2, 1) := by decide +kernel
theorem dX5_allBefore_39 : decode cX5_allBefore 39 = .ok (.ireturn, 1) := by decide +kernel
theorem dX6_init_0 : decode cX6_init 0 = .ok (.aload_n 0, 1) := by decide +kernel
theorem dX6_init_1 : decode cX6_init 1 = .ok (.invokespecial 3, 3) := by decide +kernel
theorem dX6_init_4 : decode cX6_init 4 = .ok (.aload_n 0, 1) := by decide +kernel
theorem dX6_init_5 : decode cX6_init 5 = .ok (.bipush 30, 2) := by decide +kernel
theorem dX6_init_7 : decode cX6_init 7 = .ok (.anewarray 9, 3) := by decide +kernel
theorem dX6_init_10 : decode cX6_init 10 = .ok (.putfield 11, 3) := by decide +kernel
theorem dX6_init_13 : decode cX6_init 13 = .ok (.aload_n 0, 1) := by decide +kernel
theorem dX6_init_14 : decode cX6_init 14 = .ok (.bipush 30, 2) := by decide +kernel
theorem dX6_init_16 : decode cX6_init 16 = .ok (.newarray .int, 2) := by decide +kernel
theorem dX6_init_18 : decode cX6_init 18 = .ok (.putfield 17, 3) := by decide +kernel
theorem dX6_init_21 : decode cX6_init 21 = .ok (.aload_n 0, 1) := by decide +kernel
theorem dX6_init_22 : decode cX6_init 22 = .ok (.bipush 30, 2) := by decide +kernel
theorem dX6_init_24 : decode cX6_init 24 = .ok (.newarray .int, 2) := by decide +kernel
theorem dX6_init_26 : decode cX6_init 26 = .ok (.putfield 21, 3) := by decide +kernel
theorem dX6_init_29 : decode cX6_init 29 = .ok (.aload_n 0, 1) := by decide +kernel
theorem dX6_init_30 : decode cX6_init 30 = .ok (.aload_n 1, 1) := by decide +kernel
theorem dX6_init_31 : decode cX6_init 31 = .ok (.putfield 24, 3) := by decide +kernel
theorem dX6_init_34 : decode cX6_init 34 = .ok (.iconst 0, 1) := by decide +kernel
theorem dX6_init_35 : decode cX6_init 35 = .ok (.istore_n 2, 1) := by decide +kernel
theorem dX6_init_36 : decode cX6_init 36 = .ok (.iload_n 2, 1) := by decide +kernel
theorem dX6_init_37 : decode cX6_init 37 = .ok (.bipush 30, 2) := by decide +kernel
theorem dX6_init_39 : decode cX6_init 39 = .ok (.if_icmp .ge 18, 3) := by decide +kernel
theorem dX6_init_42 : decode cX6_init 42 = .ok (.aload_n 0, 1) := by decide +kernel
theorem dX6_init_43 : decode cX6_init 43 = .ok (.getfield 11, 3) := by decide +kernel
theorem dX6_init_46 : decode cX6_init 46 = .ok (.iload_n 2, 1) := by decide +kernel
theorem dX6_init_47 : decode cX6_init 47 = .ok (.getstatic 28, 3) := by decide +kernel
theorem dX6_init_50 : decode cX6_init 50 = .ok (.aastore, 1) := by decide +kernel
theorem dX6_init_51 : decode cX6_init 51 = .ok (.iinc 2 1, 3) := by decide +kernel
theorem dX6_init_54 : decode cX6_init 54 = .ok (.goto (-18), 3) := by decide +kernel
theorem dX6_init_57 : decode cX6_init 57 = .ok (.return_, 1) := by decide +kernel
set_option maxRecDepth 20000 in
theorem ggX6_read_X10_begin : GoodIn wsX6_read wsX10_begin := goodIn_r _ [7, 8, 9, 10, 11, 12, 13, 6, 14, 15, 16, 17, 18, 19, 20, 21, 22, 23, 24, 25, 26, 27, 136, 137, 138, 139, 140, 141, 142, 143] rfl (by decide +kernel)
set_option maxRecDepth 20000 in
theorem gX6_read_X10_begin : GoodIn wsX6_read (wsV RX6 36 RX10 yX10_begin wsX10_begin) := goodIn_app (goodIn_of _ (by decide +kernel)) ggX6_read_X10_begin
set_option maxRecDepth 20000 in
theorem ggX6_read_X10_mayGoOn : GoodIn wsX6_read wsX10_mayGoOn := goodIn_r _ [31, 17, 136, 137, 138, 139, 140, 141] rfl (by decide +kernel)
set_option maxRecDepth 20000 in
theorem gX6_read_X10_mayGoOn : GoodIn wsX6_read (wsV RX6 41 RX10 yX10_mayGoOn wsX10_mayGoOn) := goodIn_app (goodIn_of _ (by decide +kernel)) ggX6_read_X10_mayGoOn
set_option maxRecDepth 20000 in
theorem ggX6_read_X6_readCommand : GoodIn wsX6_read wsX6_readCommand := goodIn_r _ [36, 2, 1, 37, 38, 39, 40, 41, 42, 35, 43, 44, 45, 46, 6, 47, 17, 10, 15, 16, 48, 49, 50, 51, 52, 53, 54, 55, 56, 57, 58, 59, 60, 61, 62, 63, 64, 65, 66, 67, 68, 69, 70, 71, 72, 73, 74, 75, 76, 77, 78, 79, 80, 81, 82, 83, 84, 85, 86, 87, 88, 89, 90, 91, 92, 93, 94, 95, 96, 97, 98, 99, 100, 8, 9, 101, 12, 13, 14, 18, 19, 20, 21, 22, 23, 24, 25, 26, 27, 102, 103, 104, 105, 106, 107, 108, 109, 110, 111, 112, 113, 114, 115, 116, 117, 118, 119, 120, 121, 122, 123, 124, 125, 126, 11, 127, 128, 129, 130, 131, 132, 133, 134, 135, 136, 137, 138, 139, 140, 141, 142, 143, 144, 145, 146] rfl (by decide +kernel)
set_option maxRecDepth 20000 in
theorem gX6_read_X6_readCommand : GoodIn wsX6_read (wsV RX6 45 RX6 yX6_readCommand wsX6_readCommand) := goodIn_app (goodIn_of _ (by decide +kernel)) ggX6_read_X6_readCommand
theorem dX6_read_0 : decode cX6_read 0 = .ok (.aload_n 0, 1) := by decide +kernel
theorem dX6_read_1 : decode cX6_read 1 = .ok (.iconst 0, 1) := by decide +kernel
theorem dX6_read_2 : decode cX6_read 2 = .ok (.putfield 32, 3) := by decide +kernel
theorem dX6_read_5 : decode cX6_read 5 = .ok (.aload_n 0, 1) := by decide +kernel
theorem dX6_read_6 : decode cX6_read 6 = .ok (.getfield 24, 3) := by decide +kernel
theorem dX6_read_9 : decode cX6_read 9 = .ok (.invokevirtual 36, 3) := by decide +kernel
theorem dX6_read_12 : decode cX6_read 12 = .ok (.iconst 0, 1) := by decide +kernel
theorem dX6_read_13 : decode cX6_read 13 = .ok (.istore_n 2, 1) := by decide +kernel
theorem dX6_read_14 : decode cX6_read 14 = .ok (.iload_n 2, 1) := by decide +kernel
theorem dX6_read_15 : decode cX6_read 15 = .ok (.bipush 30, 2) := by decide +kernel
theorem dX6_read_17 : decode cX6_read 17 = .ok (.if_icmp .gt 24, 3) := by decide +kernel
theorem dX6_read_20 : decode cX6_read 20 = .ok (.aload_n 0, 1) := by decide +kernel
theorem dX6_read_21 : decode cX6_read 21 = .ok (.getfield 24, 3) := by decide +kernel
theorem dX6_read_24 : decode cX6_read 24 = .ok (.invokevirtual 41, 3) := by decide +kernel
theorem dX6_read_27 : decode cX6_read 27 = .ok (.ifCond .eq 14, 3) := by decide +kernel
theorem dX6_read_30 : decode cX6_read 30 = .ok (.aload_n 0, 1) := by decide +kernel
theorem dX6_read_31 : decode cX6_read 31 = .ok (.aload_n 1, 1) := by decide +kernel
theorem dX6_read_32 : decode cX6_read 32 = .ok (.invokevirtual 45, 3) := by decide +kernel
theorem dX6_read_35 : decode cX6_read 35 = .ok (.iinc 2 1, 3) := by decide +kernel
theorem dX6_read_38 : decode cX6_read 38 = .ok (.goto (-24), 3) := by decide +kernel
theorem dX6_read_41 : decode cX6_read 41 = .ok (.return_, 1) := by decide +kernel
set_option maxRecDepth 20000 in
theorem ggX6_readCommand_X6_findCommand : GoodIn wsX6_readCommand wsX6_findCommand := goodIn_r _ [10, 1, 11, 12, 13, 14, 15, 16, 17, 18, 19, 20, 21, 22, 23, 24, 25, 26, 27, 28, 29, 30, 31, 32, 33, 34, 35, 36, 37, 38, 39, 40, 41, 42, 43, 44, 45, 46, 47, 48, 49, 50, 51, 52, 53, 54, 55, 56, 57, 58, 59, 60, 61, 62, 63, 64, 65, 66, 67, 68, 119, 120, 121, 122, 123, 124, 125, 126, 127, 128, 129, 130, 131] rfl (by decide +kernel)
set_option maxRecDepth 20000 in
theorem gX6_readCommand_X6_findCommand : GoodIn wsX6_readCommand (wsV RX6 49 RX6 yX6_findCommand wsX6_findCommand) := goodIn_app (goodIn_of _ (by decide +kernel)) ggX6_readCommand_X6_findCommand
set_option maxRecDepth 20000 in
theorem ggX6_readCommand_X10_fail : GoodIn wsX6_readCommand wsX10_fail := goodIn_r _ [72, 16, 73, 18, 74, 124, 125, 126, 127, 128, 129] rfl (by decide +kernel)
set_option maxRecDepth 20000 in
theorem gX6_readCommand_X10_fail : GoodIn wsX6_readCommand (wsV RX6 53 RX10 yX10_fail wsX10_fail) := goodIn_app (goodIn_of _ (by decide +kernel)) ggX6_readCommand_X10_fail
set_option maxRecDepth 20000 in
theorem ggX6_readCommand_X10_advance : GoodIn wsX6_readCommand wsX10_advance := goodIn_r _ [78, 17, 18, 19, 16, 79, 80, 14, 81, 82, 83, 84, 85, 86, 87, 88, 124, 125, 126, 127, 128, 129, 130, 131] rfl (by decide +kernel)
set_option maxRecDepth 20000 in
theorem gX6_readCommand_X10_advance : GoodIn wsX6_readCommand (wsV RX6 57 RX10 yX10_advance wsX10_advance) := goodIn_app (goodIn_of _ (by decide +kernel)) ggX6_readCommand_X10_advance
set_option maxRecDepth 20000 in
theorem ggX6_readCommand_X6_readStepName : GoodIn wsX6_readCommand wsX6_readStepName := goodIn_r _ [92, 1, 93, 94, 95, 14, 96, 16, 19, 18, 17, 97, 70, 71, 72, 73, 74, 98, 99, 100, 101, 102, 103, 104, 105, 106, 107, 108, 109, 75, 76, 77, 78, 79, 80, 81, 82, 83, 84, 85, 86, 87, 88, 119, 120, 121, 122, 123, 124, 125, 126, 127, 128, 129, 132, 133, 134, 130, 131] rfl (by decide +kernel)
set_option maxRecDepth 20000 in
theorem gX6_readCommand_X6_readStepName : GoodIn wsX6_readCommand (wsV RX6 64 RX6 yX6_readStepName wsX6_readStepName) := goodIn_app (goodIn_of _ (by decide +kernel)) ggX6_readCommand_X6_readStepName
set_option maxRecDepth 20000 in
theorem ggX6_readCommand_X10_expectNumber : GoodIn wsX6_readCommand wsX10_expectNumber := goodIn_r _ [113, 16, 18, 17, 19, 97, 70, 71, 14, 72, 73, 74, 82, 83, 84, 114, 76, 77, 78, 79, 80, 81, 85, 86, 87, 88, 124, 125, 126, 127, 128, 129, 130, 131] rfl (by decide +kernel)
set_option maxRecDepth 20000 in
theorem gX6_readCommand_X10_expectNumber : GoodIn wsX6_readCommand (wsV RX6 71 RX10 yX10_expectNumber wsX10_expectNumber) := goodIn_app (goodIn_of _ (by decide +kernel)) ggX6_readCommand_X10_expectNumber
set_option maxRecDepth 20000 in
theorem ggX6_readCommand_X10_expectSemicolon : GoodIn wsX6_readCommand wsX10_expectSemicolon := goodIn_r _ [118, 16, 97, 70, 71, 14, 72, 73, 18, 74, 114, 76, 77, 78, 17, 19, 79, 80, 81, 82, 83, 84, 85, 86, 87, 88, 124, 125, 126, 127, 128, 129, 130, 131] rfl (by decide +kernel)
set_option maxRecDepth 20000 in
theorem gX6_readCommand_X10_expectSemicolon : GoodIn wsX6_readCommand (wsV RX6 75 RX10 yX10_expectSemicolon wsX10_expectSemicolon) := goodIn_app (goodIn_of _ (by decide +kernel)) ggX6_readCommand_X10_expectSemicolon
theorem dX6_readCommand_0 : decode cX6_readCommand 0 = .ok (.aload_n 0, 1) := by decide +kernel
theorem dX6_readCommand_1 : decode cX6_readCommand 1 = .ok (.invokevirtual 49, 3) := by decide +kernel
theorem dX6_readCommand_4 : decode cX6_readCommand 4 = .ok (.astore_n 2, 1) := by decide +kernel
theorem dX6_readCommand_5 : decode cX6_readCommand 5 = .ok (.aload_n 2, 1) := by decide +kernel
theorem dX6_readCommand_6 : decode cX6_readCommand 6 = .ok (.ifnonnull 12, 3) := by decide +kernel
theorem dX6_readCommand_9 : decode cX6_readCommand 9 = .ok (.aload_n 0, 1) := by decide +kernel
theorem dX6_readCommand_10 : decode cX6_readCommand 10 = .ok (.getfield 24, 3) := by decide +kernel
theorem dX6_readCommand_13 : decode cX6_readCommand 13 = .ok (.iconst 1, 1) := by decide +kernel
theorem dX6_readCommand_14 : decode cX6_readCommand 14 = .ok (.invokevirtual 53, 3) := by decide +kernel
theorem dX6_readCommand_17 : decode cX6_readCommand 17 = .ok (.return_, 1) := by decide +kernel
theorem dX6_readCommand_18 : decode cX6_readCommand 18 = .ok (.aload_n 0, 1) := by decide +kernel
theorem dX6_readCommand_19 : decode cX6_readCommand 19 = .ok (.getfield 32, 3) := by decide +kernel
theorem dX6_readCommand_22 : decode cX6_readCommand 22 = .ok (.bipush 30, 2) := by decide +kernel
theorem dX6_readCommand_24 : decode cX6_readCommand 24 = .ok (.if_icmp .lt 12, 3) := by decide +kernel
theorem dX6_readCommand_27 : decode cX6_readCommand 27 = .ok (.aload_n 0, 1) := by decide +kernel
theorem dX6_readCommand_28 : decode cX6_readCommand 28 = .ok (.getfield 24, 3) := by decide +kernel
theorem dX6_readCommand_31 : decode cX6_readCommand 31 = .ok (.iconst 5, 1) := by decide +kernel
theorem dX6_readCommand_32 : decode cX6_readCommand 32 = .ok (.invokevirtual 53, 3) := by decide +kernel
theorem dX6_readCommand_35 : decode cX6_readCommand 35 = .ok (.return_, 1) := by decide +kernel
theorem dX6_readCommand_36 : decode cX6_readCommand 36 = .ok (.aload_n 0, 1) := by decide +kernel
theorem dX6_readCommand_37 : decode cX6_readCommand 37 = .ok (.getfield 24, 3) := by decide +kernel
theorem dX6_readCommand_40 : decode cX6_readCommand 40 = .ok (.invokevirtual 57, 3) := by decide +kernel
theorem dX6_readCommand_43 : decode cX6_readCommand 43 = .ok (.aload_n 0, 1) := by decide +kernel
theorem dX6_readCommand_44 : decode cX6_readCommand 44 = .ok (.getfield 11, 3) := by decide +kernel
theorem dX6_readCommand_47 : decode cX6_readCommand 47 = .ok (.aload_n 0, 1) := by decide +kernel
theorem dX6_readCommand_48 : decode cX6_readCommand 48 = .ok (.getfield 32, 3) := by decide +kernel
theorem dX6_readCommand_51 : decode cX6_readCommand 51 = .ok (.aload_n 2, 1) := by decide +kernel
theorem dX6_readCommand_52 : decode cX6_readCommand 52 = .ok (.aastore, 1) := by decide +kernel
theorem dX6_readCommand_53 : decode cX6_readCommand 53 = .ok (.aload_n 0, 1) := by decide +kernel
theorem dX6_readCommand_54 : decode cX6_readCommand 54 = .ok (.getfield 17, 3) := by decide +kernel
theorem dX6_readCommand_57 : decode cX6_readCommand 57 = .ok (.aload_n 0, 1) := by decide +kernel
theorem dX6_readCommand_58 : decode cX6_readCommand 58 = .ok (.getfield 32, 3) := by decide +kernel
theorem dX6_readCommand_61 : decode cX6_readCommand 61 = .ok (.aload_n 2, 1) := by decide +kernel
theorem dX6_readCommand_62 : decode cX6_readCommand 62 = .ok (.getfield 60, 3) := by decide +kernel
theorem dX6_readCommand_65 : decode cX6_readCommand 65 = .ok (.ifCond .eq 11, 3) := by decide +kernel
theorem dX6_readCommand_68 : decode cX6_readCommand 68 = .ok (.aload_n 0, 1) := by decide +kernel
theorem dX6_readCommand_69 : decode cX6_readCommand 69 = .ok (.aload_n 1, 1) := by decide +kernel
theorem dX6_readCommand_70 : decode cX6_readCommand 70 = .ok (.invokevirtual 64, 3) := by decide +kernel
theorem dX6_readCommand_73 : decode cX6_readCommand 73 = .ok (.goto 4, 3) := by decide +kernel
theorem dX6_readCommand_76 : decode cX6_readCommand 76 = .ok (.iconst (-1), 1) := by decide +kernel
theorem dX6_readCommand_77 : decode cX6_readCommand 77 = .ok (.iastore, 1) := by decide +kernel
theorem dX6_readCommand_78 : decode cX6_readCommand 78 = .ok (.aload_n 0, 1) := by decide +kernel
theorem dX6_readCommand_79 : decode cX6_readCommand 79 = .ok (.getfield 21, 3) := by decide +kernel
theorem dX6_readCommand_82 : decode cX6_readCommand 82 = .ok (.aload_n 0, 1) := by decide +kernel
theorem dX6_readCommand_83 : decode cX6_readCommand 83 = .ok (.getfield 32, 3) := by decide +kernel
theorem dX6_readCommand_86 : decode cX6_readCommand 86 = .ok (.aload_n 2, 1) := by decide +kernel
theorem dX6_readCommand_87 : decode cX6_readCommand 87 = .ok (.getfield 68, 3) := by decide +kernel
theorem dX6_readCommand_90 : decode cX6_readCommand 90 = .ok (.ifCond .eq 17, 3) := by decide +kernel
theorem dX6_readCommand_93 : decode cX6_readCommand 93 = .ok (.aload_n 0, 1) := by decide +kernel
theorem dX6_readCommand_94 : decode cX6_readCommand 94 = .ok (.getfield 24, 3) := by decide +kernel
theorem dX6_readCommand_97 : decode cX6_readCommand 97 = .ok (.iconst 0, 1) := by decide +kernel
theorem dX6_readCommand_98 : decode cX6_readCommand 98 = .ok (.sipush 999, 3) := by decide +kernel
theorem dX6_readCommand_101 : decode cX6_readCommand 101 = .ok (.invokevirtual 71, 3) := by decide +kernel
theorem dX6_readCommand_104 : decode cX6_readCommand 104 = .ok (.goto 4, 3) := by decide +kernel
theorem dX6_readCommand_107 : decode cX6_readCommand 107 = .ok (.iconst 0, 1) := by decide +kernel
theorem dX6_readCommand_108 : decode cX6_readCommand 108 = .ok (.iastore, 1) := by decide +kernel
theorem dX6_readCommand_109 : decode cX6_readCommand 109 = .ok (.aload_n 0, 1) := by decide +kernel
theorem dX6_readCommand_110 : decode cX6_readCommand 110 = .ok (.getfield 24, 3) := by decide +kernel
theorem dX6_readCommand_113 : decode cX6_readCommand 113 = .ok (.invokevirtual 75, 3) := by decide +kernel
theorem dX6_readCommand_116 : decode cX6_readCommand 116 = .ok (.aload_n 0, 1) := by decide +kernel
theorem dX6_readCommand_117 : decode cX6_readCommand 117 = .ok (.dup, 1) := by decide +kernel
theorem dX6_readCommand_118 : decode cX6_readCommand 118 = .ok (.getfield 32, 3) := by decide +kernel
theorem dX6_readCommand_121 : decode cX6_readCommand 121 = .ok (.iconst 1, 1) := by decide +kernel
theorem dX6_readCommand_122 : decode cX6_readCommand 122 = .ok (.iadd, 1) := by decide +kernel
theorem dX6_readCommand_123 : decode cX6_readCommand 123 = .ok (.putfield 32, 3) := by decide +kernel
theorem dX6_readCommand_126 : decode cX6_readCommand 126 = .ok (.return_, 1) := by decide +kernel
set_option maxRecDepth 20000 in
theorem ggX6_findCommand_X10_isWord : GoodIn wsX6_findCommand wsX10_isWord := goodIn_r _ [6, 7, 8, 9, 10, 11, 12, 13, 14, 15, 16, 17, 18, 19, 20, 21, 22, 23, 24, 25, 26, 27, 28, 29, 30, 31, 32, 33, 34, 35, 36, 37, 38, 39, 40, 41, 42, 43, 44, 45, 46, 47, 48, 49, 50, 51, 52, 53, 54, 55, 56, 57, 58, 59, 65, 66, 67, 68, 69, 70, 71, 72] rfl (by decide +kernel)
set_option maxRecDepth 20000 in
theorem gX6_findCommand_X10_isWord : GoodIn wsX6_findCommand (wsV RX6 85 RX10 yX10_isWord wsX10_isWord) := goodIn_app (goodIn_of _ (by decide +kernel)) ggX6_findCommand_X10_isWord
theorem dX6_findCommand_0 : decode cX6_findCommand 0 = .ok (.getstatic 78, 3) := by decide +kernel
theorem dX6_findCommand_3 : decode cX6_findCommand 3 = .ok (.astore_n 1, 1) := by decide +kernel
theorem dX6_findCommand_4 : decode cX6_findCommand 4 = .ok (.aload_n 1, 1) := by decide +kernel
theorem dX6_findCommand_5 : decode cX6_findCommand 5 = .ok (.arraylength, 1) := by decide +kernel
theorem dX6_findCommand_6 : decode cX6_findCommand 6 = .ok (.istore_n 2, 1) := by decide +kernel
theorem dX6_findCommand_7 : decode cX6_findCommand 7 = .ok (.iconst 0, 1) := by decide +kernel
theorem dX6_findCommand_8 : decode cX6_findCommand 8 = .ok (.istore_n 3, 1) := by decide +kernel
theorem dX6_findCommand_9 : decode cX6_findCommand 9 = .ok (.iload_n 3, 1) := by decide +kernel
theorem dX6_findCommand_10 : decode cX6_findCommand 10 = .ok (.iload_n 2, 1) := by decide +kernel
theorem dX6_findCommand_11 : decode cX6_findCommand 11 = .ok (.if_icmp .ge 32, 3) := by decide +kernel
theorem dX6_findCommand_14 : decode cX6_findCommand 14 = .ok (.aload_n 1, 1) := by decide +kernel
theorem dX6_findCommand_15 : decode cX6_findCommand 15 = .ok (.iload_n 3, 1) := by decide +kernel
theorem dX6_findCommand_16 : decode cX6_findCommand 16 = .ok (.aaload, 1) := by decide +kernel
theorem dX6_findCommand_17 : decode cX6_findCommand 17 = .ok (.astore 4, 2) := by decide +kernel
theorem dX6_findCommand_19 : decode cX6_findCommand 19 = .ok (.aload_n 0, 1) := by decide +kernel
theorem dX6_findCommand_20 : decode cX6_findCommand 20 = .ok (.getfield 24, 3) := by decide +kernel
theorem dX6_findCommand_23 : decode cX6_findCommand 23 = .ok (.aload 4, 2) := by decide +kernel
theorem dX6_findCommand_25 : decode cX6_findCommand 25 = .ok (.getfield 81, 3) := by decide +kernel
theorem dX6_findCommand_28 : decode cX6_findCommand 28 = .ok (.invokevirtual 85, 3) := by decide +kernel
theorem dX6_findCommand_31 : decode cX6_findCommand 31 = .ok (.ifCond .eq 6, 3) := by decide +kernel
theorem dX6_findCommand_34 : decode cX6_findCommand 34 = .ok (.aload 4, 2) := by decide +kernel
theorem dX6_findCommand_36 : decode cX6_findCommand 36 = .ok (.areturn, 1) := by decide +kernel
theorem dX6_findCommand_37 : decode cX6_findCommand 37 = .ok (.iinc 3 1, 3) := by decide +kernel
theorem dX6_findCommand_40 : decode cX6_findCommand 40 = .ok (.goto (-31), 3) := by decide +kernel
theorem dX6_findCommand_43 : decode cX6_findCommand 43 = .ok (.aconst_null, 1) := by decide +kernel
theorem dX6_findCommand_44 : decode cX6_findCommand 44 = .ok (.areturn, 1) := by decide +kernel
set_option maxRecDepth 20000 in
theorem ggX6_readStepName_X10_findName : GoodIn wsX6_readStepName wsX10_findName := goodIn_r _ [6, 7, 8, 9, 10, 11, 12, 13, 5, 14, 15, 16, 17, 18, 19, 20, 21, 22, 23, 24, 25, 26, 27, 28, 48, 49, 50, 51, 52, 53, 54, 55, 56, 57, 58] rfl (by decide +kernel)
set_option maxRecDepth 20000 in
theorem gX6_readStepName_X10_findName : GoodIn wsX6_readStepName (wsV RX6 89 RX10 yX10_findName wsX10_findName) := goodIn_app (goodIn_of _ (by decide +kernel)) ggX6_readStepName_X10_findName
set_option maxRecDepth 20000 in
theorem ggX6_readStepName_X10_advance : GoodIn wsX6_readStepName wsX10_advance := goodIn_r _ [32, 10, 9, 8, 7, 33, 34, 5, 35, 36, 37, 38, 39, 40, 41, 42, 48, 49, 50, 51, 52, 53, 57, 58] rfl (by decide +kernel)
set_option maxRecDepth 20000 in
theorem gX6_readStepName_X10_advance : GoodIn wsX6_readStepName (wsV RX6 57 RX10 yX10_advance wsX10_advance) := goodIn_app (goodIn_of _ (by decide +kernel)) ggX6_readStepName_X10_advance
theorem dX6_readStepName_0 : decode cX6_readStepName 0 = .ok (.aload_n 0, 1) := by decide +kernel
theorem dX6_readStepName_1 : decode cX6_readStepName 1 = .ok (.getfield 24, 3) := by decide +kernel
theorem dX6_readStepName_4 : decode cX6_readStepName 4 = .ok (.aload_n 1, 1) := by decide +kernel
theorem dX6_readStepName_5 : decode cX6_readStepName 5 = .ok (.invokevirtual 89, 3) := by decide +kernel
theorem dX6_readStepName_8 : decode cX6_readStepName 8 = .ok (.istore_n 2, 1) := by decide +kernel
theorem dX6_readStepName_9 : decode cX6_readStepName 9 = .ok (.iload_n 2, 1) := by decide +kernel
theorem dX6_readStepName_10 : decode cX6_readStepName 10 = .ok (.iconst (-1), 1) := by decide +kernel
theorem dX6_readStepName_11 : decode cX6_readStepName 11 = .ok (.if_icmp .eq 10, 3) := by decide +kernel
theorem dX6_readStepName_14 : decode cX6_readStepName 14 = .ok (.aload_n 0, 1) := by decide +kernel
theorem dX6_readStepName_15 : decode cX6_readStepName 15 = .ok (.getfield 24, 3) := by decide +kernel
theorem dX6_readStepName_18 : decode cX6_readStepName 18 = .ok (.invokevirtual 57, 3) := by decide +kernel
theorem dX6_readStepName_21 : decode cX6_readStepName 21 = .ok (.iload_n 2, 1) := by decide +kernel
theorem dX6_readStepName_22 : decode cX6_readStepName 22 = .ok (.ireturn, 1) := by decide +kernel
theorem dX7_init_0 : decode cX7_init 0 = .ok (.aload_n 0, 1) := by decide +kernel
theorem dX7_init_1 : decode cX7_init 1 = .ok (.invokespecial 3, 3) := by decide +kernel
theorem dX7_init_4 : decode cX7_init 4 = .ok (.aload_n 0, 1) := by decide +kernel
theorem dX7_init_5 : decode cX7_init 5 = .ok (.aload_n 1, 1) := by decide +kernel
theorem dX7_init_6 : decode cX7_init 6 = .ok (.putfield 9, 3) := by decide +kernel
theorem dX7_init_9 : decode cX7_init 9 = .ok (.return_, 1) := by decide +kernel
set_option maxRecDepth 20000 in
theorem ggX7_readInto_X5_clear : GoodIn wsX7_readInto wsX5_clear := goodIn_r _ [6, 7, 8, 9, 10, 11, 12, 13, 14, 15, 16, 17, 18, 182, 183, 184, 185, 186, 187, 188, 189, 190, 191, 192, 193, 194, 195, 196, 197, 198, 199, 200, 201] rfl (by decide +kernel)
set_option maxRecDepth 20000 in
theorem gX7_readInto_X5_clear : GoodIn wsX7_readInto (wsV RX7 15 RX5 yX5_clear wsX5_clear) := goodIn_app (goodIn_of _ (by decide +kernel)) ggX7_readInto_X5_clear
set_option maxRecDepth 20000 in
theorem ggX7_readInto_X10_begin : GoodIn wsX7_readInto wsX10_begin := goodIn_r _ [23, 24, 25, 26, 27, 28, 29, 22, 30, 31, 32, 33, 34, 35, 36, 37, 38, 39, 40, 41, 42, 43, 202, 203, 204, 205, 206, 207, 208, 209] rfl (by decide +kernel)
set_option maxRecDepth 20000 in
theorem gX7_readInto_X10_begin : GoodIn wsX7_readInto (wsV RX7 20 RX10 yX10_begin wsX10_begin) := goodIn_app (goodIn_of _ (by decide +kernel)) ggX7_readInto_X10_begin
set_option maxRecDepth 20000 in
theorem ggX7_readInto_X7_readHead : GoodIn wsX7_readInto wsX7_readHead := goodIn_r _ [48, 1, 49, 50, 51, 22, 52, 53, 54, 55, 56, 33, 26, 31, 32, 57, 58, 59, 60, 61, 62, 63, 64, 65, 66, 67, 68, 69, 70, 71, 72, 73, 74, 75, 76, 77, 78, 79, 80, 81, 82, 83, 84, 85, 86, 87, 88, 89, 90, 91, 92, 93, 94, 95, 96, 97, 98, 99, 100, 101, 102, 103, 104, 105, 27, 28, 29, 30, 34, 35, 36, 37, 38, 39, 40, 41, 42, 43, 106, 107, 108, 109, 24, 25, 110, 111, 112, 113, 114, 115, 116, 117, 118, 181, 182, 183, 184, 185, 186, 187, 188, 189, 190, 191, 192, 193, 194, 195, 196, 197, 198, 202, 203, 204, 205, 206, 207, 208, 209] rfl (by decide +kernel)
set_option maxRecDepth 20000 in
theorem gX7_readInto_X7_readHead : GoodIn wsX7_readInto (wsV RX7 25 RX7 yX7_readHead wsX7_readHead) := goodIn_app (goodIn_of _ (by decide +kernel)) ggX7_readInto_X7_readHead
set_option maxRecDepth 20000 in
theorem ggX7_readInto_X10_isWord : GoodIn wsX7_readInto wsX10_isWord := goodIn_r _ [56, 33, 26, 31, 32, 57, 58, 59, 60, 61, 62, 63, 64, 65, 66, 67, 68, 69, 70, 71, 72, 73, 74, 75, 76, 77, 78, 79, 80, 81, 82, 83, 84, 85, 86, 87, 88, 89, 90, 91, 92, 93, 94, 95, 96, 97, 98, 99, 100, 101, 102, 103, 104, 105, 202, 203, 204, 205, 206, 207, 208, 209] rfl (by decide +kernel)
set_option maxRecDepth 20000 in
theorem gX7_readInto_X10_isWord : GoodIn wsX7_readInto (wsV RX7 31 RX10 yX10_isWord wsX10_isWord) := goodIn_app (goodIn_of _ (by decide +kernel)) ggX7_readInto_X10_isWord
set_option maxRecDepth 20000 in
theorem ggX7_readInto_X7_readPan : GoodIn wsX7_readInto wsX7_readPan := goodIn_r _ [123, 1, 124, 125, 126, 127, 128, 129, 130, 106, 107, 108, 22, 109, 33, 24, 31, 25, 131, 28, 29, 30, 26, 32, 34, 35, 36, 37, 38, 39, 40, 41, 42, 43, 132, 133, 134, 135, 114, 136, 137, 138, 139, 140, 141, 142, 143, 144, 145, 146, 147, 148, 149, 27, 110, 111, 112, 113, 115, 116, 117, 118, 182, 183, 184, 185, 186, 187, 188, 189, 190, 191, 192, 193, 194, 195, 196, 197, 198, 199, 200, 201, 181, 202, 203, 204, 205, 206, 207, 208, 209] rfl (by decide +kernel)
set_option maxRecDepth 20000 in
theorem gX7_readInto_X7_readPan : GoodIn wsX7_readInto (wsV RX7 35 RX7 yX7_readPan wsX7_readPan) := goodIn_app (goodIn_of _ (by decide +kernel)) ggX7_readInto_X7_readPan
set_option maxRecDepth 20000 in
theorem ggX7_readInto_X7_readStep : GoodIn wsX7_readInto wsX7_readStep := goodIn_r _ [153, 1, 119, 54, 55, 22, 56, 33, 26, 31, 32, 57, 58, 59, 60, 61, 62, 63, 64, 65, 66, 67, 68, 69, 70, 71, 72, 73, 74, 75, 76, 77, 78, 79, 80, 81, 82, 83, 84, 85, 86, 87, 88, 89, 90, 91, 92, 93, 94, 95, 96, 97, 98, 99, 100, 101, 102, 103, 104, 105, 106, 107, 108, 109, 24, 25, 124, 125, 126, 127, 128, 129, 130, 131, 28, 29, 30, 34, 35, 36, 37, 38, 39, 40, 41, 42, 43, 132, 133, 134, 135, 114, 136, 137, 138, 139, 140, 141, 142, 143, 144, 145, 146, 147, 148, 149, 27, 110, 111, 112, 113, 154, 155, 156, 47, 157, 49, 50, 51, 52, 53, 158, 159, 160, 161, 162, 163, 164, 165, 166, 167, 168, 169, 170, 171, 172, 173, 174, 5, 175, 176, 12, 13, 14, 115, 116, 117, 118, 182, 183, 184, 185, 186, 187, 188, 189, 190, 191, 192, 193, 194, 195, 196, 197, 198, 199, 200, 201, 181, 202, 203, 204, 205, 206, 207, 208, 209] rfl (by decide +kernel)
set_option maxRecDepth 20000 in
theorem gX7_readInto_X7_readStep : GoodIn wsX7_readInto (wsV RX7 38 RX7 yX7_readStep wsX7_readStep) := goodIn_app (goodIn_of _ (by decide +kernel)) ggX7_readInto_X7_readStep
set_option maxRecDepth 20000 in
theorem ggX7_readInto_X10_mayGoOn : GoodIn wsX7_readInto wsX10_mayGoOn := goodIn_r _ [180, 33, 202, 203, 204, 205, 206, 207] rfl (by decide +kernel)
set_option maxRecDepth 20000 in
theorem gX7_readInto_X10_mayGoOn : GoodIn wsX7_readInto (wsV RX7 41 RX10 yX10_mayGoOn wsX10_mayGoOn) := goodIn_app (goodIn_of _ (by decide +kernel)) ggX7_readInto_X10_mayGoOn
theorem dX7_readInto_0 : decode cX7_readInto 0 = .ok (.aload_n 1, 1) := by decide +kernel
theorem dX7_readInto_1 : decode cX7_readInto 1 = .ok (.invokevirtual 15, 3) := by decide +kernel
theorem dX7_readInto_4 : decode cX7_readInto 4 = .ok (.aload_n 0, 1) := by decide +kernel
theorem dX7_readInto_5 : decode cX7_readInto 5 = .ok (.getfield 9, 3) := by decide +kernel
theorem dX7_readInto_8 : decode cX7_readInto 8 = .ok (.invokevirtual 20, 3) := by decide +kernel
theorem dX7_readInto_11 : decode cX7_readInto 11 = .ok (.aload_n 0, 1) := by decide +kernel
theorem dX7_readInto_12 : decode cX7_readInto 12 = .ok (.aload_n 1, 1) := by decide +kernel
theorem dX7_readInto_13 : decode cX7_readInto 13 = .ok (.invokevirtual 25, 3) := by decide +kernel
theorem dX7_readInto_16 : decode cX7_readInto 16 = .ok (.iconst 0, 1) := by decide +kernel
theorem dX7_readInto_17 : decode cX7_readInto 17 = .ok (.istore_n 2, 1) := by decide +kernel
theorem dX7_readInto_18 : decode cX7_readInto 18 = .ok (.iload_n 2, 1) := by decide +kernel
theorem dX7_readInto_19 : decode cX7_readInto 19 = .ok (.iconst 4, 1) := by decide +kernel
theorem dX7_readInto_20 : decode cX7_readInto 20 = .ok (.if_icmp .gt 26, 3) := by decide +kernel
theorem dX7_readInto_23 : decode cX7_readInto 23 = .ok (.aload_n 0, 1) := by decide +kernel
theorem dX7_readInto_24 : decode cX7_readInto 24 = .ok (.getfield 9, 3) := by decide +kernel
theorem dX7_readInto_27 : decode cX7_readInto 27 = .ok (.ldc 29, 2) := by decide +kernel
theorem dX7_readInto_29 : decode cX7_readInto 29 = .ok (.invokevirtual 31, 3) := by decide +kernel
theorem dX7_readInto_32 : decode cX7_readInto 32 = .ok (.ifCond .eq 14, 3) := by decide +kernel
theorem dX7_readInto_35 : decode cX7_readInto 35 = .ok (.aload_n 0, 1) := by decide +kernel
theorem dX7_readInto_36 : decode cX7_readInto 36 = .ok (.aload_n 1, 1) := by decide +kernel
theorem dX7_readInto_37 : decode cX7_readInto 37 = .ok (.invokevirtual 35, 3) := by decide +kernel
theorem dX7_readInto_40 : decode cX7_readInto 40 = .ok (.iinc 2 1, 3) := by decide +kernel
theorem dX7_readInto_43 : decode cX7_readInto 43 = .ok (.goto (-25), 3) := by decide +kernel
theorem dX7_readInto_46 : decode cX7_readInto 46 = .ok (.aload_n 0, 1) := by decide +kernel
theorem dX7_readInto_47 : decode cX7_readInto 47 = .ok (.aload_n 1, 1) := by decide +kernel
theorem dX7_readInto_48 : decode cX7_readInto 48 = .ok (.invokevirtual 38, 3) := by decide +kernel
theorem dX7_readInto_51 : decode cX7_readInto 51 = .ok (.iconst 1, 1) := by decide +kernel
theorem dX7_readInto_52 : decode cX7_readInto 52 = .ok (.istore_n 2, 1) := by decide +kernel
theorem dX7_readInto_53 : decode cX7_readInto 53 = .ok (.iload_n 2, 1) := by decide +kernel
theorem dX7_readInto_54 : decode cX7_readInto 54 = .ok (.bipush 14, 2) := by decide +kernel
theorem dX7_readInto_56 : decode cX7_readInto 56 = .ok (.if_icmp .gt 24, 3) := by decide +kernel
theorem dX7_readInto_59 : decode cX7_readInto 59 = .ok (.aload_n 0, 1) := by decide +kernel
theorem dX7_readInto_60 : decode cX7_readInto 60 = .ok (.getfield 9, 3) := by decide +kernel
theorem dX7_readInto_63 : decode cX7_readInto 63 = .ok (.invokevirtual 41, 3) := by decide +kernel
theorem dX7_readInto_66 : decode cX7_readInto 66 = .ok (.ifCond .eq 14, 3) := by decide +kernel
theorem dX7_readInto_69 : decode cX7_readInto 69 = .ok (.aload_n 0, 1) := by decide +kernel
theorem dX7_readInto_70 : decode cX7_readInto 70 = .ok (.aload_n 1, 1) := by decide +kernel
theorem dX7_readInto_71 : decode cX7_readInto 71 = .ok (.invokevirtual 38, 3) := by decide +kernel
theorem dX7_readInto_74 : decode cX7_readInto 74 = .ok (.iinc 2 1, 3) := by decide +kernel
theorem dX7_readInto_77 : decode cX7_readInto 77 = .ok (.goto (-24), 3) := by decide +kernel
theorem dX7_readInto_80 : decode cX7_readInto 80 = .ok (.return_, 1) := by decide +kernel
set_option maxRecDepth 20000 in
theorem ggX7_readHead_X10_accept : GoodIn wsX7_readHead wsX10_accept := goodIn_r _ [6, 7, 8, 9, 5, 10, 11, 12, 13, 14, 15, 16, 17, 18, 19, 20, 21, 22, 23, 24, 25, 26, 27, 28, 29, 30, 31, 32, 33, 34, 35, 36, 37, 38, 39, 40, 41, 42, 43, 44, 45, 46, 47, 48, 49, 50, 51, 52, 53, 54, 55, 56, 57, 58, 59, 60, 61, 62, 63, 64, 65, 66, 67, 68, 69, 70, 71, 72, 73, 74, 75, 76, 77, 111, 112, 113, 114, 115, 116, 117, 118] rfl (by decide +kernel)
set_option maxRecDepth 20000 in
theorem gX7_readHead_X10_accept : GoodIn wsX7_readHead (wsV RX7 47 RX10 yX10_accept wsX10_accept) := goodIn_app (goodIn_of _ (by decide +kernel)) ggX7_readHead_X10_accept
set_option maxRecDepth 20000 in
theorem ggX7_readHead_X10_fail : GoodIn wsX7_readHead wsX10_fail := goodIn_r _ [81, 11, 82, 13, 83, 111, 112, 113, 114, 115, 116] rfl (by decide +kernel)
set_option maxRecDepth 20000 in
theorem gX7_readHead_X10_fail : GoodIn wsX7_readHead (wsV RX7 50 RX10 yX10_fail wsX10_fail) := goodIn_app (goodIn_of _ (by decide +kernel)) ggX7_readHead_X10_fail
set_option maxRecDepth 20000 in
theorem ggX7_readHead_X10_expectNumber : GoodIn wsX7_readHead wsX10_expectNumber := goodIn_r _ [87, 11, 13, 12, 14, 88, 79, 80, 5, 81, 82, 83, 71, 72, 73, 64, 65, 66, 67, 68, 69, 70, 74, 75, 76, 77, 111, 112, 113, 114, 115, 116, 117, 118] rfl (by decide +kernel)
set_option maxRecDepth 20000 in
theorem gX7_readHead_X10_expectNumber : GoodIn wsX7_readHead (wsV RX7 54 RX10 yX10_expectNumber wsX10_expectNumber) := goodIn_app (goodIn_of _ (by decide +kernel)) ggX7_readHead_X10_expectNumber
set_option maxRecDepth 20000 in
theorem ggX7_readHead_X10_expectSemicolon : GoodIn wsX7_readHead wsX10_expectSemicolon := goodIn_r _ [92, 11, 88, 79, 80, 5, 81, 82, 13, 83, 64, 65, 66, 67, 12, 14, 68, 69, 70, 71, 72, 73, 74, 75, 76, 77, 111, 112, 113, 114, 115, 116, 117, 118] rfl (by decide +kernel)
set_option maxRecDepth 20000 in
theorem gX7_readHead_X10_expectSemicolon : GoodIn wsX7_readHead (wsV RX7 71 RX10 yX10_expectSemicolon wsX10_expectSemicolon) := goodIn_app (goodIn_of _ (by decide +kernel)) ggX7_readHead_X10_expectSemicolon
theorem dX7_readHead_0 : decode cX7_readHead 0 = .ok (.aload_n 0, 1) := by decide +kernel
theorem dX7_readHead_1 : decode cX7_readHead 1 = .ok (.getfield 9, 3) := by decide +kernel
theorem dX7_readHead_4 : decode cX7_readHead 4 = .ok (.ldc 45, 2) := by decide +kernel
theorem dX7_readHead_6 : decode cX7_readHead 6 = .ok (.invokevirtual 47, 3) := by decide +kernel
theorem dX7_readHead_9 : decode cX7_readHead 9 = .ok (.ifCond .ne 11, 3) := by decide +kernel
theorem dX7_readHead_12 : decode cX7_readHead 12 = .ok (.aload_n 0, 1) := by decide +kernel
theorem dX7_readHead_13 : decode cX7_readHead 13 = .ok (.getfield 9, 3) := by decide +kernel
theorem dX7_readHead_16 : decode cX7_readHead 16 = .ok (.iconst 1, 1) := by decide +kernel
theorem dX7_readHead_17 : decode cX7_readHead 17 = .ok (.invokevirtual 50, 3) := by decide +kernel
theorem dX7_readHead_20 : decode cX7_readHead 20 = .ok (.aload_n 1, 1) := by decide +kernel
theorem dX7_readHead_21 : decode cX7_readHead 21 = .ok (.aload_n 0, 1) := by decide +kernel
theorem dX7_readHead_22 : decode cX7_readHead 22 = .ok (.getfield 9, 3) := by decide +kernel
theorem dX7_readHead_25 : decode cX7_readHead 25 = .ok (.iconst 1, 1) := by decide +kernel
theorem dX7_readHead_26 : decode cX7_readHead 26 = .ok (.iconst 4, 1) := by decide +kernel
theorem dX7_readHead_27 : decode cX7_readHead 27 = .ok (.invokevirtual 54, 3) := by decide +kernel
theorem dX7_readHead_30 : decode cX7_readHead 30 = .ok (.putfield 58, 3) := by decide +kernel
theorem dX7_readHead_33 : decode cX7_readHead 33 = .ok (.aload_n 1, 1) := by decide +kernel
theorem dX7_readHead_34 : decode cX7_readHead 34 = .ok (.aload_n 0, 1) := by decide +kernel
theorem dX7_readHead_35 : decode cX7_readHead 35 = .ok (.getfield 9, 3) := by decide +kernel
theorem dX7_readHead_38 : decode cX7_readHead 38 = .ok (.iconst 0, 1) := by decide +kernel
theorem dX7_readHead_39 : decode cX7_readHead 39 = .ok (.bipush 30, 2) := by decide +kernel
theorem dX7_readHead_41 : decode cX7_readHead 41 = .ok (.invokevirtual 54, 3) := by decide +kernel
theorem dX7_readHead_44 : decode cX7_readHead 44 = .ok (.putfield 62, 3) := by decide +kernel
theorem dX7_readHead_47 : decode cX7_readHead 47 = .ok (.aload_n 1, 1) := by decide +kernel
theorem dX7_readHead_48 : decode cX7_readHead 48 = .ok (.aload_n 0, 1) := by decide +kernel
theorem dX7_readHead_49 : decode cX7_readHead 49 = .ok (.getfield 9, 3) := by decide +kernel
theorem dX7_readHead_52 : decode cX7_readHead 52 = .ok (.iconst 0, 1) := by decide +kernel
theorem dX7_readHead_53 : decode cX7_readHead 53 = .ok (.bipush 99, 2) := by decide +kernel
theorem dX7_readHead_55 : decode cX7_readHead 55 = .ok (.invokevirtual 54, 3) := by decide +kernel
theorem dX7_readHead_58 : decode cX7_readHead 58 = .ok (.putfield 65, 3) := by decide +kernel
theorem dX7_readHead_61 : decode cX7_readHead 61 = .ok (.aload_n 1, 1) := by decide +kernel
theorem dX7_readHead_62 : decode cX7_readHead 62 = .ok (.aload_n 0, 1) := by decide +kernel
theorem dX7_readHead_63 : decode cX7_readHead 63 = .ok (.getfield 9, 3) := by decide +kernel
theorem dX7_readHead_66 : decode cX7_readHead 66 = .ok (.aload_n 1, 1) := by decide +kernel
theorem dX7_readHead_67 : decode cX7_readHead 67 = .ok (.getfield 65, 3) := by decide +kernel
theorem dX7_readHead_70 : decode cX7_readHead 70 = .ok (.bipush 99, 2) := by decide +kernel
theorem dX7_readHead_72 : decode cX7_readHead 72 = .ok (.invokevirtual 54, 3) := by decide +kernel
theorem dX7_readHead_75 : decode cX7_readHead 75 = .ok (.putfield 68, 3) := by decide +kernel
theorem dX7_readHead_78 : decode cX7_readHead 78 = .ok (.aload_n 0, 1) := by decide +kernel
theorem dX7_readHead_79 : decode cX7_readHead 79 = .ok (.getfield 9, 3) := by decide +kernel
theorem dX7_readHead_82 : decode cX7_readHead 82 = .ok (.invokevirtual 71, 3) := by decide +kernel
theorem dX7_readHead_85 : decode cX7_readHead 85 = .ok (.return_, 1) := by decide +kernel
set_option maxRecDepth 20000 in
theorem ggX7_readPan_X4_isFull : GoodIn wsX7_readPan wsX4_isFull := goodIn_r _ [6, 7, 8, 79, 80, 81] rfl (by decide +kernel)
set_option maxRecDepth 20000 in
theorem gX7_readPan_X4_isFull : GoodIn wsX7_readPan (wsV RX7 83 RX4 yX4_isFull wsX4_isFull) := goodIn_app (goodIn_of _ (by decide +kernel)) ggX7_readPan_X4_isFull
set_option maxRecDepth 20000 in
theorem ggX7_readPan_X10_fail : GoodIn wsX7_readPan wsX10_fail := goodIn_r _ [13, 14, 15, 16, 17, 83, 84, 85, 86, 87, 88] rfl (by decide +kernel)
set_option maxRecDepth 20000 in
theorem gX7_readPan_X10_fail : GoodIn wsX7_readPan (wsV RX7 50 RX10 yX10_fail wsX10_fail) := goodIn_app (goodIn_of _ (by decide +kernel)) ggX7_readPan_X10_fail
set_option maxRecDepth 20000 in
theorem ggX7_readPan_X10_advance : GoodIn wsX7_readPan wsX10_advance := goodIn_r _ [21, 22, 16, 23, 14, 24, 25, 12, 26, 27, 28, 29, 30, 31, 32, 33, 83, 84, 85, 86, 87, 88, 89, 90] rfl (by decide +kernel)
set_option maxRecDepth 20000 in
theorem gX7_readPan_X10_advance : GoodIn wsX7_readPan (wsV RX7 86 RX10 yX10_advance wsX10_advance) := goodIn_app (goodIn_of _ (by decide +kernel)) ggX7_readPan_X10_advance
set_option maxRecDepth 20000 in
theorem ggX7_readPan_X10_expectNewName : GoodIn wsX7_readPan wsX10_expectNewName := goodIn_r _ [37, 14, 22, 16, 23, 38, 10, 11, 12, 13, 15, 17, 39, 40, 41, 5, 42, 7, 8, 43, 44, 45, 46, 47, 48, 49, 50, 51, 52, 3, 4, 6, 53, 19, 20, 21, 24, 25, 26, 27, 28, 29, 30, 31, 32, 33, 83, 84, 85, 86, 87, 88, 79, 80, 81, 89, 90] rfl (by decide +kernel)
set_option maxRecDepth 20000 in
theorem gX7_readPan_X10_expectNewName : GoodIn wsX7_readPan (wsV RX7 89 RX10 yX10_expectNewName wsX10_expectNewName) := goodIn_app (goodIn_of _ (by decide +kernel)) ggX7_readPan_X10_expectNewName
set_option maxRecDepth 20000 in
theorem ggX7_readPan_X10_expectNumber : GoodIn wsX7_readPan wsX10_expectNumber := goodIn_r _ [57, 14, 16, 22, 23, 38, 10, 11, 12, 13, 15, 17, 27, 28, 29, 53, 19, 20, 21, 24, 25, 26, 30, 31, 32, 33, 83, 84, 85, 86, 87, 88, 89, 90] rfl (by decide +kernel)
set_option maxRecDepth 20000 in
theorem gX7_readPan_X10_expectNumber : GoodIn wsX7_readPan (wsV RX7 54 RX10 yX10_expectNumber wsX10_expectNumber) := goodIn_app (goodIn_of _ (by decide +kernel)) ggX7_readPan_X10_expectNumber
set_option maxRecDepth 20000 in
theorem ggX7_readPan_X10_expectSemicolon : GoodIn wsX7_readPan wsX10_expectSemicolon := goodIn_r _ [61, 14, 38, 10, 11, 12, 13, 15, 16, 17, 53, 19, 20, 21, 22, 23, 24, 25, 26, 27, 28, 29, 30, 31, 32, 33, 83, 84, 85, 86, 87, 88, 89, 90] rfl (by decide +kernel)
set_option maxRecDepth 20000 in
theorem gX7_readPan_X10_expectSemicolon : GoodIn wsX7_readPan (wsV RX7 71 RX10 yX10_expectSemicolon wsX10_expectSemicolon) := goodIn_app (goodIn_of _ (by decide +kernel)) ggX7_readPan_X10_expectSemicolon
theorem dX7_readPan_0 : decode cX7_readPan 0 = .ok (.aload_n 1, 1) := by decide +kernel
theorem dX7_readPan_1 : decode cX7_readPan 1 = .ok (.getfield 74, 3) := by decide +kernel
theorem dX7_readPan_4 : decode cX7_readPan 4 = .ok (.getfield 78, 3) := by decide +kernel
theorem dX7_readPan_7 : decode cX7_readPan 7 = .ok (.istore_n 2, 1) := by decide +kernel
theorem dX7_readPan_8 : decode cX7_readPan 8 = .ok (.aload_n 1, 1) := by decide +kernel
theorem dX7_readPan_9 : decode cX7_readPan 9 = .ok (.getfield 74, 3) := by decide +kernel
theorem dX7_readPan_12 : decode cX7_readPan 12 = .ok (.invokevirtual 83, 3) := by decide +kernel
theorem dX7_readPan_15 : decode cX7_readPan 15 = .ok (.ifCond .eq 12, 3) := by decide +kernel
theorem dX7_readPan_18 : decode cX7_readPan 18 = .ok (.aload_n 0, 1) := by decide +kernel
theorem dX7_readPan_19 : decode cX7_readPan 19 = .ok (.getfield 9, 3) := by decide +kernel
theorem dX7_readPan_22 : decode cX7_readPan 22 = .ok (.iconst 5, 1) := by decide +kernel
theorem dX7_readPan_23 : decode cX7_readPan 23 = .ok (.invokevirtual 50, 3) := by decide +kernel
theorem dX7_readPan_26 : decode cX7_readPan 26 = .ok (.return_, 1) := by decide +kernel
theorem dX7_readPan_27 : decode cX7_readPan 27 = .ok (.aload_n 0, 1) := by decide +kernel
theorem dX7_readPan_28 : decode cX7_readPan 28 = .ok (.getfield 9, 3) := by decide +kernel
theorem dX7_readPan_31 : decode cX7_readPan 31 = .ok (.invokevirtual 86, 3) := by decide +kernel
theorem dX7_readPan_34 : decode cX7_readPan 34 = .ok (.aload_n 0, 1) := by decide +kernel
theorem dX7_readPan_35 : decode cX7_readPan 35 = .ok (.getfield 9, 3) := by decide +kernel
theorem dX7_readPan_38 : decode cX7_readPan 38 = .ok (.aload_n 1, 1) := by decide +kernel
theorem dX7_readPan_39 : decode cX7_readPan 39 = .ok (.getfield 74, 3) := by decide +kernel
theorem dX7_readPan_42 : decode cX7_readPan 42 = .ok (.invokevirtual 89, 3) := by decide +kernel
theorem dX7_readPan_45 : decode cX7_readPan 45 = .ok (.aload_n 1, 1) := by decide +kernel
theorem dX7_readPan_46 : decode cX7_readPan 46 = .ok (.getfield 93, 3) := by decide +kernel
theorem dX7_readPan_49 : decode cX7_readPan 49 = .ok (.iload_n 2, 1) := by decide +kernel
theorem dX7_readPan_50 : decode cX7_readPan 50 = .ok (.aload_n 0, 1) := by decide +kernel
theorem dX7_readPan_51 : decode cX7_readPan 51 = .ok (.getfield 9, 3) := by decide +kernel
theorem dX7_readPan_54 : decode cX7_readPan 54 = .ok (.iconst 1, 1) := by decide +kernel
theorem dX7_readPan_55 : decode cX7_readPan 55 = .ok (.iconst 5, 1) := by decide +kernel
theorem dX7_readPan_56 : decode cX7_readPan 56 = .ok (.invokevirtual 54, 3) := by decide +kernel
theorem dX7_readPan_59 : decode cX7_readPan 59 = .ok (.iastore, 1) := by decide +kernel
theorem dX7_readPan_60 : decode cX7_readPan 60 = .ok (.aload_n 0, 1) := by decide +kernel
theorem dX7_readPan_61 : decode cX7_readPan 61 = .ok (.getfield 9, 3) := by decide +kernel
theorem dX7_readPan_64 : decode cX7_readPan 64 = .ok (.invokevirtual 71, 3) := by decide +kernel
theorem dX7_readPan_67 : decode cX7_readPan 67 = .ok (.aload_n 1, 1) := by decide +kernel
theorem dX7_readPan_68 : decode cX7_readPan 68 = .ok (.getfield 74, 3) := by decide +kernel
theorem dX7_readPan_71 : decode cX7_readPan 71 = .ok (.dup, 1) := by decide +kernel
theorem dX7_readPan_72 : decode cX7_readPan 72 = .ok (.getfield 78, 3) := by decide +kernel
theorem dX7_readPan_75 : decode cX7_readPan 75 = .ok (.iconst 1, 1) := by decide +kernel
theorem dX7_readPan_76 : decode cX7_readPan 76 = .ok (.iadd, 1) := by decide +kernel
theorem dX7_readPan_77 : decode cX7_readPan 77 = .ok (.putfield 78, 3) := by decide +kernel
theorem dX7_readPan_80 : decode cX7_readPan 80 = .ok (.return_, 1) := by decide +kernel
set_option maxRecDepth 20000 in
theorem ggX7_readStep_X10_isWord : GoodIn wsX7_readStep wsX10_isWord := goodIn_r _ [6, 7, 8, 9, 10, 11, 12, 13, 14, 15, 16, 17, 18, 19, 20, 21, 22, 23, 24, 25, 26, 27, 28, 29, 30, 31, 32, 33, 34, 35, 36, 37, 38, 39, 40, 41, 42, 43, 44, 45, 46, 47, 48, 49, 50, 51, 52, 53, 54, 55, 56, 57, 58, 59, 169, 170, 171, 172, 173, 174, 175, 176] rfl (by decide +kernel)
set_option maxRecDepth 20000 in
theorem gX7_readStep_X10_isWord : GoodIn wsX7_readStep (wsV RX7 31 RX10 yX10_isWord wsX10_isWord) := goodIn_app (goodIn_of _ (by decide +kernel)) ggX7_readStep_X10_isWord
set_option maxRecDepth 20000 in
theorem ggX7_readStep_X10_fail : GoodIn wsX7_readStep wsX10_fail := goodIn_r _ [63, 7, 64, 9, 65, 169, 170, 171, 172, 173, 174] rfl (by decide +kernel)
set_option maxRecDepth 20000 in
theorem gX7_readStep_X10_fail : GoodIn wsX7_readStep (wsV RX7 50 RX10 yX10_fail wsX10_fail) := goodIn_app (goodIn_of _ (by decide +kernel)) ggX7_readStep_X10_fail
set_option maxRecDepth 20000 in
theorem ggX7_readStep_X4_isFull : GoodIn wsX7_readStep wsX4_isFull := goodIn_r _ [70, 71, 72, 165, 166, 167] rfl (by decide +kernel)
set_option maxRecDepth 20000 in
theorem gX7_readStep_X4_isFull : GoodIn wsX7_readStep (wsV RX7 83 RX4 yX4_isFull wsX4_isFull) := goodIn_app (goodIn_of _ (by decide +kernel)) ggX7_readStep_X4_isFull
set_option maxRecDepth 20000 in
theorem ggX7_readStep_X10_advance : GoodIn wsX7_readStep wsX10_advance := goodIn_r _ [76, 8, 9, 10, 7, 77, 78, 5, 79, 80, 81, 82, 83, 84, 85, 86, 169, 170, 171, 172, 173, 174, 175, 176] rfl (by decide +kernel)
set_option maxRecDepth 20000 in
theorem gX7_readStep_X10_advance : GoodIn wsX7_readStep (wsV RX7 86 RX10 yX10_advance wsX10_advance) := goodIn_app (goodIn_of _ (by decide +kernel)) ggX7_readStep_X10_advance
set_option maxRecDepth 20000 in
theorem ggX7_readStep_X10_expectNewName : GoodIn wsX7_readStep wsX10_expectNewName := goodIn_r _ [90, 7, 8, 9, 10, 91, 61, 62, 5, 63, 64, 65, 92, 93, 94, 69, 95, 71, 72, 96, 97, 98, 99, 100, 101, 102, 103, 104, 105, 67, 68, 70, 106, 74, 75, 76, 77, 78, 79, 80, 81, 82, 83, 84, 85, 86, 169, 170, 171, 172, 173, 174, 165, 166, 167, 175, 176] rfl (by decide +kernel)
set_option maxRecDepth 20000 in
theorem gX7_readStep_X10_expectNewName : GoodIn wsX7_readStep (wsV RX7 89 RX10 yX10_expectNewName wsX10_expectNewName) := goodIn_app (goodIn_of _ (by decide +kernel)) ggX7_readStep_X10_expectNewName
set_option maxRecDepth 20000 in
theorem ggX7_readStep_X10_expectNumber : GoodIn wsX7_readStep wsX10_expectNumber := goodIn_r _ [110, 7, 9, 8, 10, 91, 61, 62, 5, 63, 64, 65, 80, 81, 82, 106, 74, 75, 76, 77, 78, 79, 83, 84, 85, 86, 169, 170, 171, 172, 173, 174, 175, 176] rfl (by decide +kernel)
set_option maxRecDepth 20000 in
theorem gX7_readStep_X10_expectNumber : GoodIn wsX7_readStep (wsV RX7 54 RX10 yX10_expectNumber wsX10_expectNumber) := goodIn_app (goodIn_of _ (by decide +kernel)) ggX7_readStep_X10_expectNumber
set_option maxRecDepth 20000 in
theorem ggX7_readStep_X7_readPanOf : GoodIn wsX7_readStep wsX7_readPanOf := goodIn_r _ [115, 1, 116, 117, 118, 5, 119, 120, 3, 4, 6, 7, 8, 9, 10, 11, 12, 13, 14, 15, 16, 17, 18, 19, 20, 21, 22, 23, 24, 25, 26, 27, 28, 29, 30, 31, 32, 33, 34, 35, 36, 37, 38, 39, 40, 41, 42, 43, 44, 45, 46, 47, 48, 49, 50, 51, 52, 53, 54, 55, 56, 57, 58, 59, 106, 74, 75, 76, 77, 78, 79, 80, 81, 82, 83, 84, 85, 86, 121, 122, 123, 124, 91, 61, 62, 63, 64, 65, 92, 93, 94, 69, 95, 71, 72, 96, 97, 98, 99, 100, 73, 148, 149, 150, 151, 152, 153, 154, 155, 156, 157, 158, 159, 160, 161, 162, 163, 164, 168, 169, 170, 171, 172, 173, 174, 175, 176, 165, 166, 167] rfl (by decide +kernel)
set_option maxRecDepth 20000 in
theorem gX7_readStep_X7_readPanOf : GoodIn wsX7_readStep (wsV RX7 108 RX7 yX7_readPanOf wsX7_readPanOf) := goodIn_app (goodIn_of _ (by decide +kernel)) ggX7_readStep_X7_readPanOf
set_option maxRecDepth 20000 in
theorem ggX7_readStep_X10_accept : GoodIn wsX7_readStep wsX10_accept := goodIn_r _ [119, 120, 3, 4, 5, 6, 7, 8, 9, 10, 11, 12, 13, 14, 15, 16, 17, 18, 19, 20, 21, 22, 23, 24, 25, 26, 27, 28, 29, 30, 31, 32, 33, 34, 35, 36, 37, 38, 39, 40, 41, 42, 43, 44, 45, 46, 47, 48, 49, 50, 51, 52, 53, 54, 55, 56, 57, 58, 59, 106, 74, 75, 76, 77, 78, 79, 80, 81, 82, 83, 84, 85, 86, 169, 170, 171, 172, 173, 174, 175, 176] rfl (by decide +kernel)
set_option maxRecDepth 20000 in
theorem gX7_readStep_X10_accept : GoodIn wsX7_readStep (wsV RX7 47 RX10 yX10_accept wsX10_accept) := goodIn_app (goodIn_of _ (by decide +kernel)) ggX7_readStep_X10_accept
set_option maxRecDepth 20000 in
theorem ggX7_readStep_X7_readPredecessors : GoodIn wsX7_readStep wsX7_readPredecessors := goodIn_r _ [128, 1, 129, 130, 131, 5, 132, 7, 121, 122, 123, 124, 10, 9, 8, 91, 61, 62, 63, 64, 65, 92, 93, 94, 69, 95, 71, 72, 96, 97, 98, 99, 100, 133, 81, 134, 60, 135, 136, 137, 138, 139, 140, 141, 142, 143, 73, 74, 75, 76, 77, 78, 79, 80, 82, 83, 84, 85, 86, 168, 148, 149, 150, 151, 152, 153, 154, 155, 156, 157, 158, 159, 160, 161, 162, 163, 164, 169, 170, 171, 172, 173, 174, 165, 166, 167, 175, 176] rfl (by decide +kernel)
set_option maxRecDepth 20000 in
theorem gX7_readStep_X7_readPredecessors : GoodIn wsX7_readStep (wsV RX7 122 RX7 yX7_readPredecessors wsX7_readPredecessors) := goodIn_app (goodIn_of _ (by decide +kernel)) ggX7_readStep_X7_readPredecessors
set_option maxRecDepth 20000 in
theorem ggX7_readStep_X10_expectSemicolon : GoodIn wsX7_readStep wsX10_expectSemicolon := goodIn_r _ [147, 7, 91, 61, 62, 5, 63, 64, 9, 65, 106, 74, 75, 76, 8, 10, 77, 78, 79, 80, 81, 82, 83, 84, 85, 86, 169, 170, 171, 172, 173, 174, 175, 176] rfl (by decide +kernel)
set_option maxRecDepth 20000 in
theorem gX7_readStep_X10_expectSemicolon : GoodIn wsX7_readStep (wsV RX7 71 RX10 yX10_expectSemicolon wsX10_expectSemicolon) := goodIn_app (goodIn_of _ (by decide +kernel)) ggX7_readStep_X10_expectSemicolon
theorem dX7_readStep_0 : decode cX7_readStep 0 = .ok (.aload_n 1, 1) := by decide +kernel
theorem dX7_readStep_1 : decode cX7_readStep 1 = .ok (.getfield 97, 3) := by decide +kernel
theorem dX7_readStep_4 : decode cX7_readStep 4 = .ok (.getfield 78, 3) := by decide +kernel
theorem dX7_readStep_7 : decode cX7_readStep 7 = .ok (.istore_n 2, 1) := by decide +kernel
theorem dX7_readStep_8 : decode cX7_readStep 8 = .ok (.aload_n 0, 1) := by decide +kernel
theorem dX7_readStep_9 : decode cX7_readStep 9 = .ok (.getfield 9, 3) := by decide +kernel
theorem dX7_readStep_12 : decode cX7_readStep 12 = .ok (.ldc 100, 2) := by decide +kernel
theorem dX7_readStep_14 : decode cX7_readStep 14 = .ok (.invokevirtual 31, 3) := by decide +kernel
theorem dX7_readStep_17 : decode cX7_readStep 17 = .ok (.ifCond .ne 12, 3) := by decide +kernel
theorem dX7_readStep_20 : decode cX7_readStep 20 = .ok (.aload_n 0, 1) := by decide +kernel
theorem dX7_readStep_21 : decode cX7_readStep 21 = .ok (.getfield 9, 3) := by decide +kernel
theorem dX7_readStep_24 : decode cX7_readStep 24 = .ok (.iconst 1, 1) := by decide +kernel
theorem dX7_readStep_25 : decode cX7_readStep 25 = .ok (.invokevirtual 50, 3) := by decide +kernel
theorem dX7_readStep_28 : decode cX7_readStep 28 = .ok (.return_, 1) := by decide +kernel
theorem dX7_readStep_29 : decode cX7_readStep 29 = .ok (.aload_n 1, 1) := by decide +kernel
theorem dX7_readStep_30 : decode cX7_readStep 30 = .ok (.getfield 97, 3) := by decide +kernel
theorem dX7_readStep_33 : decode cX7_readStep 33 = .ok (.invokevirtual 83, 3) := by decide +kernel
theorem dX7_readStep_36 : decode cX7_readStep 36 = .ok (.ifCond .eq 12, 3) := by decide +kernel
theorem dX7_readStep_39 : decode cX7_readStep 39 = .ok (.aload_n 0, 1) := by decide +kernel
theorem dX7_readStep_40 : decode cX7_readStep 40 = .ok (.getfield 9, 3) := by decide +kernel
theorem dX7_readStep_43 : decode cX7_readStep 43 = .ok (.iconst 5, 1) := by decide +kernel
theorem dX7_readStep_44 : decode cX7_readStep 44 = .ok (.invokevirtual 50, 3) := by decide +kernel
theorem dX7_readStep_47 : decode cX7_readStep 47 = .ok (.return_, 1) := by decide +kernel
theorem dX7_readStep_48 : decode cX7_readStep 48 = .ok (.aload_n 0, 1) := by decide +kernel
theorem dX7_readStep_49 : decode cX7_readStep 49 = .ok (.getfield 9, 3) := by decide +kernel
theorem dX7_readStep_52 : decode cX7_readStep 52 = .ok (.invokevirtual 86, 3) := by decide +kernel
theorem dX7_readStep_55 : decode cX7_readStep 55 = .ok (.aload_n 0, 1) := by decide +kernel
theorem dX7_readStep_56 : decode cX7_readStep 56 = .ok (.getfield 9, 3) := by decide +kernel
theorem dX7_readStep_59 : decode cX7_readStep 59 = .ok (.aload_n 1, 1) := by decide +kernel
theorem dX7_readStep_60 : decode cX7_readStep 60 = .ok (.getfield 97, 3) := by decide +kernel
theorem dX7_readStep_63 : decode cX7_readStep 63 = .ok (.invokevirtual 89, 3) := by decide +kernel
theorem dX7_readStep_66 : decode cX7_readStep 66 = .ok (.aload_n 1, 1) := by decide +kernel
theorem dX7_readStep_67 : decode cX7_readStep 67 = .ok (.getfield 102, 3) := by decide +kernel
theorem dX7_readStep_70 : decode cX7_readStep 70 = .ok (.iload_n 2, 1) := by decide +kernel
theorem dX7_readStep_71 : decode cX7_readStep 71 = .ok (.aload_n 0, 1) := by decide +kernel
theorem dX7_readStep_72 : decode cX7_readStep 72 = .ok (.getfield 9, 3) := by decide +kernel
theorem dX7_readStep_75 : decode cX7_readStep 75 = .ok (.iconst 1, 1) := by decide +kernel
theorem dX7_readStep_76 : decode cX7_readStep 76 = .ok (.bipush 60, 2) := by decide +kernel
theorem dX7_readStep_78 : decode cX7_readStep 78 = .ok (.invokevirtual 54, 3) := by decide +kernel
theorem dX7_readStep_81 : decode cX7_readStep 81 = .ok (.iastore, 1) := by decide +kernel
theorem dX7_readStep_82 : decode cX7_readStep 82 = .ok (.aload_n 1, 1) := by decide +kernel
theorem dX7_readStep_83 : decode cX7_readStep 83 = .ok (.getfield 105, 3) := by decide +kernel
theorem dX7_readStep_86 : decode cX7_readStep 86 = .ok (.iload_n 2, 1) := by decide +kernel
theorem dX7_readStep_87 : decode cX7_readStep 87 = .ok (.aload_n 0, 1) := by decide +kernel
theorem dX7_readStep_88 : decode cX7_readStep 88 = .ok (.getfield 9, 3) := by decide +kernel
theorem dX7_readStep_91 : decode cX7_readStep 91 = .ok (.iconst 0, 1) := by decide +kernel
theorem dX7_readStep_92 : decode cX7_readStep 92 = .ok (.bipush 9, 2) := by decide +kernel
theorem dX7_readStep_94 : decode cX7_readStep 94 = .ok (.invokevirtual 54, 3) := by decide +kernel
theorem dX7_readStep_97 : decode cX7_readStep 97 = .ok (.iastore, 1) := by decide +kernel
theorem dX7_readStep_98 : decode cX7_readStep 98 = .ok (.aload_n 0, 1) := by decide +kernel
theorem dX7_readStep_99 : decode cX7_readStep 99 = .ok (.aload_n 1, 1) := by decide +kernel
theorem dX7_readStep_100 : decode cX7_readStep 100 = .ok (.iload_n 2, 1) := by decide +kernel
theorem dX7_readStep_101 : decode cX7_readStep 101 = .ok (.invokevirtual 108, 3) := by decide +kernel
theorem dX7_readStep_104 : decode cX7_readStep 104 = .ok (.aload_n 0, 1) := by decide +kernel
theorem dX7_readStep_105 : decode cX7_readStep 105 = .ok (.getfield 9, 3) := by decide +kernel
theorem dX7_readStep_108 : decode cX7_readStep 108 = .ok (.ldc 112, 2) := by decide +kernel
theorem dX7_readStep_110 : decode cX7_readStep 110 = .ok (.invokevirtual 47, 3) := by decide +kernel
theorem dX7_readStep_113 : decode cX7_readStep 113 = .ok (.ifCond .eq 15, 3) := by decide +kernel
theorem dX7_readStep_116 : decode cX7_readStep 116 = .ok (.aload_n 1, 1) := by decide +kernel
theorem dX7_readStep_117 : decode cX7_readStep 117 = .ok (.dup, 1) := by decide +kernel
theorem dX7_readStep_118 : decode cX7_readStep 118 = .ok (.getfield 114, 3) := by decide +kernel
theorem dX7_readStep_121 : decode cX7_readStep 121 = .ok (.iconst 1, 1) := by decide +kernel
theorem dX7_readStep_122 : decode cX7_readStep 122 = .ok (.iload_n 2, 1) := by decide +kernel
theorem dX7_readStep_123 : decode cX7_readStep 123 = .ok (.ishl, 1) := by decide +kernel
theorem dX7_readStep_124 : decode cX7_readStep 124 = .ok (.ior, 1) := by decide +kernel
theorem dX7_readStep_125 : decode cX7_readStep 125 = .ok (.putfield 114, 3) := by decide +kernel
theorem dX7_readStep_128 : decode cX7_readStep 128 = .ok (.aload_n 0, 1) := by decide +kernel
theorem dX7_readStep_129 : decode cX7_readStep 129 = .ok (.getfield 9, 3) := by decide +kernel
theorem dX7_readStep_132 : decode cX7_readStep 132 = .ok (.ldc 116, 2) := by decide +kernel
theorem dX7_readStep_134 : decode cX7_readStep 134 = .ok (.invokevirtual 47, 3) := by decide +kernel
theorem dX7_readStep_137 : decode cX7_readStep 137 = .ok (.ifCond .eq 15, 3) := by decide +kernel
theorem dX7_readStep_140 : decode cX7_readStep 140 = .ok (.aload_n 1, 1) := by decide +kernel
theorem dX7_readStep_141 : decode cX7_readStep 141 = .ok (.dup, 1) := by decide +kernel
theorem dX7_readStep_142 : decode cX7_readStep 142 = .ok (.getfield 118, 3) := by decide +kernel
theorem dX7_readStep_145 : decode cX7_readStep 145 = .ok (.iconst 1, 1) := by decide +kernel
theorem dX7_readStep_146 : decode cX7_readStep 146 = .ok (.iload_n 2, 1) := by decide +kernel
theorem dX7_readStep_147 : decode cX7_readStep 147 = .ok (.ishl, 1) := by decide +kernel
theorem dX7_readStep_148 : decode cX7_readStep 148 = .ok (.ior, 1) := by decide +kernel
theorem dX7_readStep_149 : decode cX7_readStep 149 = .ok (.putfield 118, 3) := by decide +kernel
theorem dX7_readStep_152 : decode cX7_readStep 152 = .ok (.aload_n 0, 1) := by decide +kernel
theorem dX7_readStep_153 : decode cX7_readStep 153 = .ok (.getfield 9, 3) := by decide +kernel
theorem dX7_readStep_156 : decode cX7_readStep 156 = .ok (.ldc 120, 2) := by decide +kernel
theorem dX7_readStep_158 : decode cX7_readStep 158 = .ok (.invokevirtual 47, 3) := by decide +kernel
theorem dX7_readStep_161 : decode cX7_readStep 161 = .ok (.ifCond .eq 9, 3) := by decide +kernel
theorem dX7_readStep_164 : decode cX7_readStep 164 = .ok (.aload_n 0, 1) := by decide +kernel
theorem dX7_readStep_165 : decode cX7_readStep 165 = .ok (.aload_n 1, 1) := by decide +kernel
theorem dX7_readStep_166 : decode cX7_readStep 166 = .ok (.iload_n 2, 1) := by decide +kernel
theorem dX7_readStep_167 : decode cX7_readStep 167 = .ok (.invokevirtual 122, 3) := by decide +kernel
theorem dX7_readStep_170 : decode cX7_readStep 170 = .ok (.aload_n 0, 1) := by decide +kernel
theorem dX7_readStep_171 : decode cX7_readStep 171 = .ok (.getfield 9, 3) := by decide +kernel
theorem dX7_readStep_174 : decode cX7_readStep 174 = .ok (.invokevirtual 71, 3) := by decide +kernel
theorem dX7_readStep_177 : decode cX7_readStep 177 = .ok (.aload_n 1, 1) := by decide +kernel
theorem dX7_readStep_178 : decode cX7_readStep 178 = .ok (.getfield 97, 3) := by decide +kernel
theorem dX7_readStep_181 : decode cX7_readStep 181 = .ok (.dup, 1) := by decide +kernel
theorem dX7_readStep_182 : decode cX7_readStep 182 = .ok (.getfield 78, 3) := by decide +kernel
theorem dX7_readStep_185 : decode cX7_readStep 185 = .ok (.iconst 1, 1) := by decide +kernel
theorem dX7_readStep_186 : decode cX7_readStep 186 = .ok (.iadd, 1) := by decide +kernel
theorem dX7_readStep_187 : decode cX7_readStep 187 = .ok (.putfield 78, 3) := by decide +kernel
theorem dX7_readStep_190 : decode cX7_readStep 190 = .ok (.return_, 1) := by decide +kernel
set_option maxRecDepth 20000 in
theorem ggX7_readPanOf_X10_accept : GoodIn wsX7_readPanOf wsX10_accept := goodIn_r _ [6, 7, 8, 9, 5, 10, 11, 12, 13, 14, 15, 16, 17, 18, 19, 20, 21, 22, 23, 24, 25, 26, 27, 28, 29, 30, 31, 32, 33, 34, 35, 36, 37, 38, 39, 40, 41, 42, 43, 44, 45, 46, 47, 48, 49, 50, 51, 52, 53, 54, 55, 56, 57, 58, 59, 60, 61, 62, 63, 64, 65, 66, 67, 68, 69, 70, 71, 72, 73, 74, 75, 76, 77, 119, 120, 121, 122, 123, 124, 125, 126] rfl (by decide +kernel)
set_option maxRecDepth 20000 in
theorem gX7_readPanOf_X10_accept : GoodIn wsX7_readPanOf (wsV RX7 47 RX10 yX10_accept wsX10_accept) := goodIn_app (goodIn_of _ (by decide +kernel)) ggX7_readPanOf_X10_accept
set_option maxRecDepth 20000 in
theorem ggX7_readPanOf_X10_findName : GoodIn wsX7_readPanOf wsX10_findName := goodIn_r _ [81, 11, 14, 13, 12, 82, 83, 84, 5, 85, 86, 87, 88, 89, 90, 91, 92, 93, 94, 95, 96, 97, 98, 99, 119, 120, 121, 122, 123, 124, 127, 128, 129, 125, 126] rfl (by decide +kernel)
set_option maxRecDepth 20000 in
theorem gX7_readPanOf_X10_findName : GoodIn wsX7_readPanOf (wsV RX7 129 RX10 yX10_findName wsX10_findName) := goodIn_app (goodIn_of _ (by decide +kernel)) ggX7_readPanOf_X10_findName
set_option maxRecDepth 20000 in
theorem ggX7_readPanOf_X10_advance : GoodIn wsX7_readPanOf wsX10_advance := goodIn_r _ [67, 12, 13, 14, 11, 68, 69, 5, 70, 71, 72, 73, 74, 75, 76, 77, 119, 120, 121, 122, 123, 124, 125, 126] rfl (by decide +kernel)
set_option maxRecDepth 20000 in
theorem gX7_readPanOf_X10_advance : GoodIn wsX7_readPanOf (wsV RX7 86 RX10 yX10_advance wsX10_advance) := goodIn_app (goodIn_of _ (by decide +kernel)) ggX7_readPanOf_X10_advance
theorem dX7_readPanOf_0 : decode cX7_readPanOf 0 = .ok (.aload_n 1, 1) := by decide +kernel
theorem dX7_readPanOf_1 : decode cX7_readPanOf 1 = .ok (.getfield 125, 3) := by decide +kernel
theorem dX7_readPanOf_4 : decode cX7_readPanOf 4 = .ok (.iload_n 2, 1) := by decide +kernel
theorem dX7_readPanOf_5 : decode cX7_readPanOf 5 = .ok (.iconst (-1), 1) := by decide +kernel
theorem dX7_readPanOf_6 : decode cX7_readPanOf 6 = .ok (.iastore, 1) := by decide +kernel
theorem dX7_readPanOf_7 : decode cX7_readPanOf 7 = .ok (.aload_n 0, 1) := by decide +kernel
theorem dX7_readPanOf_8 : decode cX7_readPanOf 8 = .ok (.getfield 9, 3) := by decide +kernel
theorem dX7_readPanOf_11 : decode cX7_readPanOf 11 = .ok (.ldc 127, 2) := by decide +kernel
theorem dX7_readPanOf_13 : decode cX7_readPanOf 13 = .ok (.invokevirtual 47, 3) := by decide +kernel
theorem dX7_readPanOf_16 : decode cX7_readPanOf 16 = .ok (.ifCond .eq 46, 3) := by decide +kernel
theorem dX7_readPanOf_19 : decode cX7_readPanOf 19 = .ok (.aload_n 0, 1) := by decide +kernel
theorem dX7_readPanOf_20 : decode cX7_readPanOf 20 = .ok (.getfield 9, 3) := by decide +kernel
theorem dX7_readPanOf_23 : decode cX7_readPanOf 23 = .ok (.aload_n 1, 1) := by decide +kernel
theorem dX7_readPanOf_24 : decode cX7_readPanOf 24 = .ok (.getfield 74, 3) := by decide +kernel
theorem dX7_readPanOf_27 : decode cX7_readPanOf 27 = .ok (.invokevirtual 129, 3) := by decide +kernel
theorem dX7_readPanOf_30 : decode cX7_readPanOf 30 = .ok (.istore_n 3, 1) := by decide +kernel
theorem dX7_readPanOf_31 : decode cX7_readPanOf 31 = .ok (.iload_n 3, 1) := by decide +kernel
theorem dX7_readPanOf_32 : decode cX7_readPanOf 32 = .ok (.iconst (-1), 1) := by decide +kernel
theorem dX7_readPanOf_33 : decode cX7_readPanOf 33 = .ok (.if_icmp .eq 29, 3) := by decide +kernel
theorem dX7_readPanOf_36 : decode cX7_readPanOf 36 = .ok (.aload_n 1, 1) := by decide +kernel
theorem dX7_readPanOf_37 : decode cX7_readPanOf 37 = .ok (.getfield 125, 3) := by decide +kernel
theorem dX7_readPanOf_40 : decode cX7_readPanOf 40 = .ok (.iload_n 2, 1) := by decide +kernel
theorem dX7_readPanOf_41 : decode cX7_readPanOf 41 = .ok (.iload_n 3, 1) := by decide +kernel
theorem dX7_readPanOf_42 : decode cX7_readPanOf 42 = .ok (.iastore, 1) := by decide +kernel
theorem dX7_readPanOf_43 : decode cX7_readPanOf 43 = .ok (.aload_n 1, 1) := by decide +kernel
theorem dX7_readPanOf_44 : decode cX7_readPanOf 44 = .ok (.getfield 133, 3) := by decide +kernel
theorem dX7_readPanOf_47 : decode cX7_readPanOf 47 = .ok (.iload_n 3, 1) := by decide +kernel
theorem dX7_readPanOf_48 : decode cX7_readPanOf 48 = .ok (.dup2, 1) := by decide +kernel
theorem dX7_readPanOf_49 : decode cX7_readPanOf 49 = .ok (.iaload, 1) := by decide +kernel
theorem dX7_readPanOf_50 : decode cX7_readPanOf 50 = .ok (.iconst 1, 1) := by decide +kernel
theorem dX7_readPanOf_51 : decode cX7_readPanOf 51 = .ok (.iload_n 2, 1) := by decide +kernel
theorem dX7_readPanOf_52 : decode cX7_readPanOf 52 = .ok (.ishl, 1) := by decide +kernel
theorem dX7_readPanOf_53 : decode cX7_readPanOf 53 = .ok (.ior, 1) := by decide +kernel
theorem dX7_readPanOf_54 : decode cX7_readPanOf 54 = .ok (.iastore, 1) := by decide +kernel
theorem dX7_readPanOf_55 : decode cX7_readPanOf 55 = .ok (.aload_n 0, 1) := by decide +kernel
theorem dX7_readPanOf_56 : decode cX7_readPanOf 56 = .ok (.getfield 9, 3) := by decide +kernel
theorem dX7_readPanOf_59 : decode cX7_readPanOf 59 = .ok (.invokevirtual 86, 3) := by decide +kernel
theorem dX7_readPanOf_62 : decode cX7_readPanOf 62 = .ok (.return_, 1) := by decide +kernel
set_option maxRecDepth 20000 in
theorem ggX7_readPredecessors_X10_isAnyWord : GoodIn wsX7_readPredecessors wsX10_isAnyWord := goodIn_r _ [6, 7, 77, 78, 79, 80, 81, 82] rfl (by decide +kernel)
set_option maxRecDepth 20000 in
theorem gX7_readPredecessors_X10_isAnyWord : GoodIn wsX7_readPredecessors (wsV RX7 136 RX10 yX10_isAnyWord wsX10_isAnyWord) := goodIn_app (goodIn_of _ (by decide +kernel)) ggX7_readPredecessors_X10_isAnyWord
set_option maxRecDepth 20000 in
theorem ggX7_readPredecessors_X10_findName : GoodIn wsX7_readPredecessors wsX10_findName := goodIn_r _ [11, 7, 12, 13, 14, 15, 16, 17, 5, 18, 19, 20, 21, 22, 23, 24, 25, 26, 27, 28, 29, 30, 31, 32, 77, 78, 79, 80, 81, 82, 83, 84, 85, 86, 87] rfl (by decide +kernel)
set_option maxRecDepth 20000 in
theorem gX7_readPredecessors_X10_findName : GoodIn wsX7_readPredecessors (wsV RX7 129 RX10 yX10_findName wsX10_findName) := goodIn_app (goodIn_of _ (by decide +kernel)) ggX7_readPredecessors_X10_findName
set_option maxRecDepth 20000 in
theorem ggX7_readPredecessors_X11_contains : GoodIn wsX7_readPredecessors wsX11_contains := goodIn_r _ [35] rfl (by decide +kernel)
set_option maxRecDepth 20000 in
theorem gX7_readPredecessors_X11_contains_n142 : GoodIn wsX7_readPredecessors (wsX11_contains) := ggX7_readPredecessors_X11_contains
set_option maxRecDepth 20000 in
theorem ggX7_readPredecessors_X10_fail : GoodIn wsX7_readPredecessors wsX10_fail := goodIn_r _ [18, 7, 19, 13, 20, 77, 78, 79, 80, 81, 82] rfl (by decide +kernel)
set_option maxRecDepth 20000 in
theorem gX7_readPredecessors_X10_fail : GoodIn wsX7_readPredecessors (wsV RX7 50 RX10 yX10_fail wsX10_fail) := goodIn_app (goodIn_of _ (by decide +kernel)) ggX7_readPredecessors_X10_fail
set_option maxRecDepth 20000 in
theorem ggX7_readPredecessors_X5_addPredecessor : GoodIn wsX7_readPredecessors wsX5_addPredecessor := goodIn_r _ [41, 42, 43, 44, 45, 60, 61, 62, 63, 64, 65, 66, 67, 68, 69, 70, 71, 72, 73, 74, 75, 76] rfl (by decide +kernel)
set_option maxRecDepth 20000 in
theorem gX7_readPredecessors_X5_addPredecessor : GoodIn wsX7_readPredecessors (wsV RX7 149 RX5 yX5_addPredecessor wsX5_addPredecessor) := goodIn_app (goodIn_of _ (by decide +kernel)) ggX7_readPredecessors_X5_addPredecessor
set_option maxRecDepth 20000 in
theorem ggX7_readPredecessors_X10_advance : GoodIn wsX7_readPredecessors wsX10_advance := goodIn_r _ [49, 14, 13, 12, 7, 50, 51, 5, 52, 53, 34, 54, 55, 56, 57, 58, 77, 78, 79, 80, 81, 82, 86, 87] rfl (by decide +kernel)
set_option maxRecDepth 20000 in
theorem gX7_readPredecessors_X10_advance : GoodIn wsX7_readPredecessors (wsV RX7 86 RX10 yX10_advance wsX10_advance) := goodIn_app (goodIn_of _ (by decide +kernel)) ggX7_readPredecessors_X10_advance
theorem dX7_readPredecessors_0 : decode cX7_readPredecessors 0 = .ok (.iconst 0, 1) := by decide +kernel
theorem dX7_readPredecessors_1 : decode cX7_readPredecessors 1 = .ok (.istore_n 3, 1) := by decide +kernel
theorem dX7_readPredecessors_2 : decode cX7_readPredecessors 2 = .ok (.iload_n 3, 1) := by decide +kernel
theorem dX7_readPredecessors_3 : decode cX7_readPredecessors 3 = .ok (.iconst 4, 1) := by decide +kernel
theorem dX7_readPredecessors_4 : decode cX7_readPredecessors 4 = .ok (.if_icmp .gt 103, 3) := by decide +kernel
theorem dX7_readPredecessors_7 : decode cX7_readPredecessors 7 = .ok (.iload_n 3, 1) := by decide +kernel
theorem dX7_readPredecessors_8 : decode cX7_readPredecessors 8 = .ok (.ifCond .eq 13, 3) := by decide +kernel
theorem dX7_readPredecessors_11 : decode cX7_readPredecessors 11 = .ok (.aload_n 0, 1) := by decide +kernel
theorem dX7_readPredecessors_12 : decode cX7_readPredecessors 12 = .ok (.getfield 9, 3) := by decide +kernel
theorem dX7_readPredecessors_15 : decode cX7_readPredecessors 15 = .ok (.invokevirtual 136, 3) := by decide +kernel
theorem dX7_readPredecessors_18 : decode cX7_readPredecessors 18 = .ok (.ifCond .eq 89, 3) := by decide +kernel
theorem dX7_readPredecessors_21 : decode cX7_readPredecessors 21 = .ok (.aload_n 0, 1) := by decide +kernel
theorem dX7_readPredecessors_22 : decode cX7_readPredecessors 22 = .ok (.getfield 9, 3) := by decide +kernel
theorem dX7_readPredecessors_25 : decode cX7_readPredecessors 25 = .ok (.aload_n 1, 1) := by decide +kernel
theorem dX7_readPredecessors_26 : decode cX7_readPredecessors 26 = .ok (.getfield 97, 3) := by decide +kernel
theorem dX7_readPredecessors_29 : decode cX7_readPredecessors 29 = .ok (.invokevirtual 129, 3) := by decide +kernel
theorem dX7_readPredecessors_32 : decode cX7_readPredecessors 32 = .ok (.istore 4, 2) := by decide +kernel
theorem dX7_readPredecessors_34 : decode cX7_readPredecessors 34 = .ok (.iload 4, 2) := by decide +kernel
theorem dX7_readPredecessors_36 : decode cX7_readPredecessors 36 = .ok (.iconst (-1), 1) := by decide +kernel
theorem dX7_readPredecessors_37 : decode cX7_readPredecessors 37 = .ok (.if_icmp .ne 4, 3) := by decide +kernel
theorem dX7_readPredecessors_40 : decode cX7_readPredecessors 40 = .ok (.return_, 1) := by decide +kernel
theorem dX7_readPredecessors_41 : decode cX7_readPredecessors 41 = .ok (.aload_n 1, 1) := by decide +kernel
theorem dX7_readPredecessors_42 : decode cX7_readPredecessors 42 = .ok (.getfield 139, 3) := by decide +kernel
theorem dX7_readPredecessors_45 : decode cX7_readPredecessors 45 = .ok (.iload_n 2, 1) := by decide +kernel
theorem dX7_readPredecessors_46 : decode cX7_readPredecessors 46 = .ok (.iaload, 1) := by decide +kernel
theorem dX7_readPredecessors_47 : decode cX7_readPredecessors 47 = .ok (.iload 4, 2) := by decide +kernel
theorem dX7_readPredecessors_49 : decode cX7_readPredecessors 49 = .ok (.invokestatic 142, 3) := by decide +kernel
theorem dX7_readPredecessors_52 : decode cX7_readPredecessors 52 = .ok (.ifCond .eq 14, 3) := by decide +kernel
theorem dX7_readPredecessors_55 : decode cX7_readPredecessors 55 = .ok (.aload_n 0, 1) := by decide +kernel
theorem dX7_readPredecessors_56 : decode cX7_readPredecessors 56 = .ok (.getfield 9, 3) := by decide +kernel
theorem dX7_readPredecessors_59 : decode cX7_readPredecessors 59 = .ok (.iconst 4, 1) := by decide +kernel
theorem dX7_readPredecessors_60 : decode cX7_readPredecessors 60 = .ok (.invokevirtual 50, 3) := by decide +kernel
theorem dX7_readPredecessors_63 : decode cX7_readPredecessors 63 = .ok (.goto 38, 3) := by decide +kernel
theorem dX7_readPredecessors_66 : decode cX7_readPredecessors 66 = .ok (.aload_n 1, 1) := by decide +kernel
theorem dX7_readPredecessors_67 : decode cX7_readPredecessors 67 = .ok (.getfield 146, 3) := by decide +kernel
theorem dX7_readPredecessors_70 : decode cX7_readPredecessors 70 = .ok (.iload_n 2, 1) := by decide +kernel
theorem dX7_readPredecessors_71 : decode cX7_readPredecessors 71 = .ok (.iaload, 1) := by decide +kernel
theorem dX7_readPredecessors_72 : decode cX7_readPredecessors 72 = .ok (.iconst 4, 1) := by decide +kernel
theorem dX7_readPredecessors_73 : decode cX7_readPredecessors 73 = .ok (.if_icmp .lt 14, 3) := by decide +kernel
theorem dX7_readPredecessors_76 : decode cX7_readPredecessors 76 = .ok (.aload_n 0, 1) := by decide +kernel
theorem dX7_readPredecessors_77 : decode cX7_readPredecessors 77 = .ok (.getfield 9, 3) := by decide +kernel
theorem dX7_readPredecessors_80 : decode cX7_readPredecessors 80 = .ok (.iconst 5, 1) := by decide +kernel
theorem dX7_readPredecessors_81 : decode cX7_readPredecessors 81 = .ok (.invokevirtual 50, 3) := by decide +kernel
theorem dX7_readPredecessors_84 : decode cX7_readPredecessors 84 = .ok (.goto 17, 3) := by decide +kernel
theorem dX7_readPredecessors_87 : decode cX7_readPredecessors 87 = .ok (.aload_n 1, 1) := by decide +kernel
theorem dX7_readPredecessors_88 : decode cX7_readPredecessors 88 = .ok (.iload_n 2, 1) := by decide +kernel
theorem dX7_readPredecessors_89 : decode cX7_readPredecessors 89 = .ok (.iload 4, 2) := by decide +kernel
theorem dX7_readPredecessors_91 : decode cX7_readPredecessors 91 = .ok (.invokevirtual 149, 3) := by decide +kernel
theorem dX7_readPredecessors_94 : decode cX7_readPredecessors 94 = .ok (.aload_n 0, 1) := by decide +kernel
theorem dX7_readPredecessors_95 : decode cX7_readPredecessors 95 = .ok (.getfield 9, 3) := by decide +kernel
theorem dX7_readPredecessors_98 : decode cX7_readPredecessors 98 = .ok (.invokevirtual 86, 3) := by decide +kernel
theorem dX7_readPredecessors_101 : decode cX7_readPredecessors 101 = .ok (.iinc 3 1, 3) := by decide +kernel
theorem dX7_readPredecessors_104 : decode cX7_readPredecessors 104 = .ok (.goto (-102), 3) := by decide +kernel
theorem dX7_readPredecessors_107 : decode cX7_readPredecessors 107 = .ok (.return_, 1) := by decide +kernel
theorem dX8_init_0 : decode cX8_init 0 = .ok (.aload_n 0, 1) := by decide +kernel
theorem dX8_init_1 : decode cX8_init 1 = .ok (.invokespecial 3, 3) := by decide +kernel
theorem dX8_init_4 : decode cX8_init 4 = .ok (.aload_n 0, 1) := by decide +kernel
theorem dX8_init_5 : decode cX8_init 5 = .ok (.bipush 14, 2) := by decide +kernel
theorem dX8_init_7 : decode cX8_init 7 = .ok (.newarray .int, 2) := by decide +kernel
theorem dX8_init_9 : decode cX8_init 9 = .ok (.putfield 9, 3) := by decide +kernel
theorem dX8_init_12 : decode cX8_init 12 = .ok (.aload_n 0, 1) := by decide +kernel
theorem dX8_init_13 : decode cX8_init 13 = .ok (.bipush 14, 2) := by decide +kernel
theorem dX8_init_15 : decode cX8_init 15 = .ok (.newarray .int, 2) := by decide +kernel
theorem dX8_init_17 : decode cX8_init 17 = .ok (.putfield 15, 3) := by decide +kernel
theorem dX8_init_20 : decode cX8_init 20 = .ok (.aload_n 0, 1) := by decide +kernel
theorem dX8_init_21 : decode cX8_init 21 = .ok (.bipush 14, 2) := by decide +kernel
theorem dX8_init_23 : decode cX8_init 23 = .ok (.newarray .int, 2) := by decide +kernel
theorem dX8_init_25 : decode cX8_init 25 = .ok (.putfield 18, 3) := by decide +kernel
theorem dX8_init_28 : decode cX8_init 28 = .ok (.aload_n 0, 1) := by decide +kernel
theorem dX8_init_29 : decode cX8_init 29 = .ok (.bipush 14, 2) := by decide +kernel
theorem dX8_init_31 : decode cX8_init 31 = .ok (.newarray .int, 2) := by decide +kernel
theorem dX8_init_33 : decode cX8_init 33 = .ok (.putfield 21, 3) := by decide +kernel
theorem dX8_init_36 : decode cX8_init 36 = .ok (.aload_n 0, 1) := by decide +kernel
theorem dX8_init_37 : decode cX8_init 37 = .ok (.bipush 14, 2) := by decide +kernel
theorem dX8_init_39 : decode cX8_init 39 = .ok (.newarray .int, 2) := by decide +kernel
theorem dX8_init_41 : decode cX8_init 41 = .ok (.putfield 24, 3) := by decide +kernel
theorem dX8_init_44 : decode cX8_init 44 = .ok (.aload_n 0, 1) := by decide +kernel
theorem dX8_init_45 : decode cX8_init 45 = .ok (.bipush 14, 2) := by decide +kernel
theorem dX8_init_47 : decode cX8_init 47 = .ok (.newarray .int, 2) := by decide +kernel
theorem dX8_init_49 : decode cX8_init 49 = .ok (.putfield 27, 3) := by decide +kernel
theorem dX8_init_52 : decode cX8_init 52 = .ok (.return_, 1) := by decide +kernel
set_option maxRecDepth 20000 in
theorem ggX8_begin_J7_fill_53178 : GoodIn wsX8_begin wsJ7_fill_53178 := goodIn_r _ [23] rfl (by decide +kernel)
set_option maxRecDepth 20000 in
theorem gX8_begin_J7_fill_53178 : GoodIn wsX8_begin (va_wsS RX8 69 yJ7_fill_53178 wsJ7_fill_53178) := goodIn_app (goodIn_of _ (by decide +kernel)) ggX8_begin_J7_fill_53178
theorem dX8_begin_0 : decode cX8_begin 0 = .ok (.aload_n 0, 1) := by decide +kernel
theorem dX8_begin_1 : decode cX8_begin 1 = .ok (.aload_n 1, 1) := by decide +kernel
theorem dX8_begin_2 : decode cX8_begin 2 = .ok (.getfield 30, 3) := by decide +kernel
theorem dX8_begin_5 : decode cX8_begin 5 = .ok (.putfield 36, 3) := by decide +kernel
theorem dX8_begin_8 : decode cX8_begin 8 = .ok (.aload_n 0, 1) := by decide +kernel
theorem dX8_begin_9 : decode cX8_begin 9 = .ok (.iconst 0, 1) := by decide +kernel
theorem dX8_begin_10 : decode cX8_begin 10 = .ok (.putfield 37, 3) := by decide +kernel
theorem dX8_begin_13 : decode cX8_begin 13 = .ok (.aload_n 0, 1) := by decide +kernel
theorem dX8_begin_14 : decode cX8_begin 14 = .ok (.iconst 0, 1) := by decide +kernel
theorem dX8_begin_15 : decode cX8_begin 15 = .ok (.putfield 40, 3) := by decide +kernel
theorem dX8_begin_18 : decode cX8_begin 18 = .ok (.aload_n 0, 1) := by decide +kernel
theorem dX8_begin_19 : decode cX8_begin 19 = .ok (.iconst 0, 1) := by decide +kernel
theorem dX8_begin_20 : decode cX8_begin 20 = .ok (.putfield 43, 3) := by decide +kernel
theorem dX8_begin_23 : decode cX8_begin 23 = .ok (.aload_n 0, 1) := by decide +kernel
theorem dX8_begin_24 : decode cX8_begin 24 = .ok (.iconst 0, 1) := by decide +kernel
theorem dX8_begin_25 : decode cX8_begin 25 = .ok (.putfield 46, 3) := by decide +kernel
theorem dX8_begin_28 : decode cX8_begin 28 = .ok (.aload_n 0, 1) := by decide +kernel
theorem dX8_begin_29 : decode cX8_begin 29 = .ok (.iconst 0, 1) := by decide +kernel
theorem dX8_begin_30 : decode cX8_begin 30 = .ok (.putfield 49, 3) := by decide +kernel
theorem dX8_begin_33 : decode cX8_begin 33 = .ok (.aload_n 0, 1) := by decide +kernel
theorem dX8_begin_34 : decode cX8_begin 34 = .ok (.iconst 0, 1) := by decide +kernel
theorem dX8_begin_35 : decode cX8_begin 35 = .ok (.putfield 53, 3) := by decide +kernel
theorem dX8_begin_38 : decode cX8_begin 38 = .ok (.aload_n 0, 1) := by decide +kernel
theorem dX8_begin_39 : decode cX8_begin 39 = .ok (.iconst 0, 1) := by decide +kernel
theorem dX8_begin_40 : decode cX8_begin 40 = .ok (.putfield 56, 3) := by decide +kernel
theorem dX8_begin_43 : decode cX8_begin 43 = .ok (.aload_n 0, 1) := by decide +kernel
theorem dX8_begin_44 : decode cX8_begin 44 = .ok (.iconst 0, 1) := by decide +kernel
theorem dX8_begin_45 : decode cX8_begin 45 = .ok (.putfield 59, 3) := by decide +kernel
theorem dX8_begin_48 : decode cX8_begin 48 = .ok (.aload_n 1, 1) := by decide +kernel
theorem dX8_begin_49 : decode cX8_begin 49 = .ok (.getfield 62, 3) := by decide +kernel
theorem dX8_begin_52 : decode cX8_begin 52 = .ok (.iconst 0, 1) := by decide +kernel
theorem dX8_begin_53 : decode cX8_begin 53 = .ok (.aload_n 0, 1) := by decide +kernel
theorem dX8_begin_54 : decode cX8_begin 54 = .ok (.getfield 9, 3) := by decide +kernel
theorem dX8_begin_57 : decode cX8_begin 57 = .ok (.iconst 0, 1) := by decide +kernel
theorem dX8_begin_58 : decode cX8_begin 58 = .ok (.bipush 14, 2) := by decide +kernel
theorem dX8_begin_60 : decode cX8_begin 60 = .ok (.invokestatic 63, 3) := by decide +kernel
theorem dX8_begin_63 : decode cX8_begin 63 = .ok (.aload_n 0, 1) := by decide +kernel
theorem dX8_begin_64 : decode cX8_begin 64 = .ok (.getfield 15, 3) := by decide +kernel
theorem dX8_begin_67 : decode cX8_begin 67 = .ok (.iconst 0, 1) := by decide +kernel
theorem dX8_begin_68 : decode cX8_begin 68 = .ok (.invokestatic 69, 3) := by decide +kernel
theorem dX8_begin_71 : decode cX8_begin 71 = .ok (.aload_n 0, 1) := by decide +kernel
theorem dX8_begin_72 : decode cX8_begin 72 = .ok (.getfield 18, 3) := by decide +kernel
theorem dX8_begin_75 : decode cX8_begin 75 = .ok (.iconst 0, 1) := by decide +kernel
theorem dX8_begin_76 : decode cX8_begin 76 = .ok (.invokestatic 69, 3) := by decide +kernel
theorem dX8_begin_79 : decode cX8_begin 79 = .ok (.aload_n 0, 1) := by decide +kernel
theorem dX8_begin_80 : decode cX8_begin 80 = .ok (.getfield 21, 3) := by decide +kernel
theorem dX8_begin_83 : decode cX8_begin 83 = .ok (.iconst 0, 1) := by decide +kernel
theorem dX8_begin_84 : decode cX8_begin 84 = .ok (.invokestatic 69, 3) := by decide +kernel
theorem dX8_begin_87 : decode cX8_begin 87 = .ok (.aload_n 0, 1) := by decide +kernel
theorem dX8_begin_88 : decode cX8_begin 88 = .ok (.getfield 24, 3) := by decide +kernel
theorem dX8_begin_91 : decode cX8_begin 91 = .ok (.iconst 0, 1) := by decide +kernel
theorem dX8_begin_92 : decode cX8_begin 92 = .ok (.invokestatic 69, 3) := by decide +kernel
theorem dX8_begin_95 : decode cX8_begin 95 = .ok (.aload_n 0, 1) := by decide +kernel
theorem dX8_begin_96 : decode cX8_begin 96 = .ok (.getfield 27, 3) := by decide +kernel
theorem dX8_begin_99 : decode cX8_begin 99 = .ok (.iconst 0, 1) := by decide +kernel
theorem dX8_begin_100 : decode cX8_begin 100 = .ok (.invokestatic 69, 3) := by decide +kernel
theorem dX8_begin_103 : decode cX8_begin 103 = .ok (.return_, 1) := by decide +kernel
theorem dX8_copyFrom_0 : decode cX8_copyFrom 0 = .ok (.aload_n 0, 1) := by decide +kernel
theorem dX8_copyFrom_1 : decode cX8_copyFrom 1 = .ok (.aload_n 1, 1) := by decide +kernel
theorem dX8_copyFrom_2 : decode cX8_copyFrom 2 = .ok (.getfield 36, 3) := by decide +kernel
theorem dX8_copyFrom_5 : decode cX8_copyFrom 5 = .ok (.putfield 36, 3) := by decide +kernel
theorem dX8_copyFrom_8 : decode cX8_copyFrom 8 = .ok (.aload_n 0, 1) := by decide +kernel
theorem dX8_copyFrom_9 : decode cX8_copyFrom 9 = .ok (.aload_n 1, 1) := by decide +kernel
theorem dX8_copyFrom_10 : decode cX8_copyFrom 10 = .ok (.getfield 37, 3) := by decide +kernel
theorem dX8_copyFrom_13 : decode cX8_copyFrom 13 = .ok (.putfield 37, 3) := by decide +kernel
theorem dX8_copyFrom_16 : decode cX8_copyFrom 16 = .ok (.aload_n 0, 1) := by decide +kernel
theorem dX8_copyFrom_17 : decode cX8_copyFrom 17 = .ok (.aload_n 1, 1) := by decide +kernel
theorem dX8_copyFrom_18 : decode cX8_copyFrom 18 = .ok (.getfield 40, 3) := by decide +kernel
theorem dX8_copyFrom_21 : decode cX8_copyFrom 21 = .ok (.putfield 40, 3) := by decide +kernel
theorem dX8_copyFrom_24 : decode cX8_copyFrom 24 = .ok (.aload_n 0, 1) := by decide +kernel
theorem dX8_copyFrom_25 : decode cX8_copyFrom 25 = .ok (.aload_n 1, 1) := by decide +kernel
theorem dX8_copyFrom_26 : decode cX8_copyFrom 26 = .ok (.getfield 43, 3) := by decide +kernel
theorem dX8_copyFrom_29 : decode cX8_copyFrom 29 = .ok (.putfield 43, 3) := by decide +kernel
theorem dX8_copyFrom_32 : decode cX8_copyFrom 32 = .ok (.aload_n 0, 1) := by decide +kernel
theorem dX8_copyFrom_33 : decode cX8_copyFrom 33 = .ok (.aload_n 1, 1) := by decide +kernel
theorem dX8_copyFrom_34 : decode cX8_copyFrom 34 = .ok (.getfield 46, 3) := by decide +kernel
theorem dX8_copyFrom_37 : decode cX8_copyFrom 37 = .ok (.putfield 46, 3) := by decide +kernel
theorem dX8_copyFrom_40 : decode cX8_copyFrom 40 = .ok (.aload_n 0, 1) := by decide +kernel
theorem dX8_copyFrom_41 : decode cX8_copyFrom 41 = .ok (.aload_n 1, 1) := by decide +kernel
theorem dX8_copyFrom_42 : decode cX8_copyFrom 42 = .ok (.getfield 49, 3) := by decide +kernel
theorem dX8_copyFrom_45 : decode cX8_copyFrom 45 = .ok (.putfield 49, 3) := by decide +kernel
theorem dX8_copyFrom_48 : decode cX8_copyFrom 48 = .ok (.aload_n 0, 1) := by decide +kernel
theorem dX8_copyFrom_49 : decode cX8_copyFrom 49 = .ok (.aload_n 1, 1) := by decide +kernel
theorem dX8_copyFrom_50 : decode cX8_copyFrom 50 = .ok (.getfield 53, 3) := by decide +kernel
theorem dX8_copyFrom_53 : decode cX8_copyFrom 53 = .ok (.putfield 53, 3) := by decide +kernel
theorem dX8_copyFrom_56 : decode cX8_copyFrom 56 = .ok (.aload_n 0, 1) := by decide +kernel
theorem dX8_copyFrom_57 : decode cX8_copyFrom 57 = .ok (.aload_n 1, 1) := by decide +kernel
theorem dX8_copyFrom_58 : decode cX8_copyFrom 58 = .ok (.getfield 56, 3) := by decide +kernel
theorem dX8_copyFrom_61 : decode cX8_copyFrom 61 = .ok (.putfield 56, 3) := by decide +kernel
theorem dX8_copyFrom_64 : decode cX8_copyFrom 64 = .ok (.aload_n 0, 1) := by decide +kernel
theorem dX8_copyFrom_65 : decode cX8_copyFrom 65 = .ok (.aload_n 1, 1) := by decide +kernel
theorem dX8_copyFrom_66 : decode cX8_copyFrom 66 = .ok (.getfield 59, 3) := by decide +kernel
theorem dX8_copyFrom_69 : decode cX8_copyFrom 69 = .ok (.putfield 59, 3) := by decide +kernel
theorem dX8_copyFrom_72 : decode cX8_copyFrom 72 = .ok (.aload_n 1, 1) := by decide +kernel
theorem dX8_copyFrom_73 : decode cX8_copyFrom 73 = .ok (.getfield 9, 3) := by decide +kernel
theorem dX8_copyFrom_76 : decode cX8_copyFrom 76 = .ok (.iconst 0, 1) := by decide +kernel
theorem dX8_copyFrom_77 : decode cX8_copyFrom 77 = .ok (.aload_n 0, 1) := by decide +kernel
theorem dX8_copyFrom_78 : decode cX8_copyFrom 78 = .ok (.getfield 9, 3) := by decide +kernel
theorem dX8_copyFrom_81 : decode cX8_copyFrom 81 = .ok (.iconst 0, 1) := by decide +kernel
theorem dX8_copyFrom_82 : decode cX8_copyFrom 82 = .ok (.bipush 14, 2) := by decide +kernel
theorem dX8_copyFrom_84 : decode cX8_copyFrom 84 = .ok (.invokestatic 63, 3) := by decide +kernel
theorem dX8_copyFrom_87 : decode cX8_copyFrom 87 = .ok (.aload_n 1, 1) := by decide +kernel
theorem dX8_copyFrom_88 : decode cX8_copyFrom 88 = .ok (.getfield 15, 3) := by decide +kernel
theorem dX8_copyFrom_91 : decode cX8_copyFrom 91 = .ok (.iconst 0, 1) := by decide +kernel
theorem dX8_copyFrom_92 : decode cX8_copyFrom 92 = .ok (.aload_n 0, 1) := by decide +kernel
theorem dX8_copyFrom_93 : decode cX8_copyFrom 93 = .ok (.getfield 15, 3) := by decide +kernel
theorem dX8_copyFrom_96 : decode cX8_copyFrom 96 = .ok (.iconst 0, 1) := by decide +kernel
theorem dX8_copyFrom_97 : decode cX8_copyFrom 97 = .ok (.bipush 14, 2) := by decide +kernel
theorem dX8_copyFrom_99 : decode cX8_copyFrom 99 = .ok (.invokestatic 63, 3) := by decide +kernel
theorem dX8_copyFrom_102 : decode cX8_copyFrom 102 = .ok (.aload_n 1, 1) := by decide +kernel
theorem dX8_copyFrom_103 : decode cX8_copyFrom 103 = .ok (.getfield 18, 3) := by decide +kernel
theorem dX8_copyFrom_106 : decode cX8_copyFrom 106 = .ok (.iconst 0, 1) := by decide +kernel
theorem dX8_copyFrom_107 : decode cX8_copyFrom 107 = .ok (.aload_n 0, 1) := by decide +kernel
theorem dX8_copyFrom_108 : decode cX8_copyFrom 108 = .ok (.getfield 18, 3) := by decide +kernel
theorem dX8_copyFrom_111 : decode cX8_copyFrom 111 = .ok (.iconst 0, 1) := by decide +kernel
theorem dX8_copyFrom_112 : decode cX8_copyFrom 112 = .ok (.bipush 14, 2) := by decide +kernel
theorem dX8_copyFrom_114 : decode cX8_copyFrom 114 = .ok (.invokestatic 63, 3) := by decide +kernel
theorem dX8_copyFrom_117 : decode cX8_copyFrom 117 = .ok (.aload_n 1, 1) := by decide +kernel
theorem dX8_copyFrom_118 : decode cX8_copyFrom 118 = .ok (.getfield 21, 3) := by decide +kernel
theorem dX8_copyFrom_121 : decode cX8_copyFrom 121 = .ok (.iconst 0, 1) := by decide +kernel
theorem dX8_copyFrom_122 : decode cX8_copyFrom 122 = .ok (.aload_n 0, 1) := by decide +kernel
theorem dX8_copyFrom_123 : decode cX8_copyFrom 123 = .ok (.getfield 21, 3) := by decide +kernel
theorem dX8_copyFrom_126 : decode cX8_copyFrom 126 = .ok (.iconst 0, 1) := by decide +kernel
theorem dX8_copyFrom_127 : decode cX8_copyFrom 127 = .ok (.bipush 14, 2) := by decide +kernel
theorem dX8_copyFrom_129 : decode cX8_copyFrom 129 = .ok (.invokestatic 63, 3) := by decide +kernel
theorem dX8_copyFrom_132 : decode cX8_copyFrom 132 = .ok (.aload_n 1, 1) := by decide +kernel
theorem dX8_copyFrom_133 : decode cX8_copyFrom 133 = .ok (.getfield 24, 3) := by decide +kernel
theorem dX8_copyFrom_136 : decode cX8_copyFrom 136 = .ok (.iconst 0, 1) := by decide +kernel
theorem dX8_copyFrom_137 : decode cX8_copyFrom 137 = .ok (.aload_n 0, 1) := by decide +kernel
theorem dX8_copyFrom_138 : decode cX8_copyFrom 138 = .ok (.getfield 24, 3) := by decide +kernel
theorem dX8_copyFrom_141 : decode cX8_copyFrom 141 = .ok (.iconst 0, 1) := by decide +kernel
theorem dX8_copyFrom_142 : decode cX8_copyFrom 142 = .ok (.bipush 14, 2) := by decide +kernel
theorem dX8_copyFrom_144 : decode cX8_copyFrom 144 = .ok (.invokestatic 63, 3) := by decide +kernel
theorem dX8_copyFrom_147 : decode cX8_copyFrom 147 = .ok (.aload_n 1, 1) := by decide +kernel
theorem dX8_copyFrom_148 : decode cX8_copyFrom 148 = .ok (.getfield 27, 3) := by decide +kernel
theorem dX8_copyFrom_151 : decode cX8_copyFrom 151 = .ok (.iconst 0, 1) := by decide +kernel
theorem dX8_copyFrom_152 : decode cX8_copyFrom 152 = .ok (.aload_n 0, 1) := by decide +kernel
theorem dX8_copyFrom_153 : decode cX8_copyFrom 153 = .ok (.getfield 27, 3) := by decide +kernel
theorem dX8_copyFrom_156 : decode cX8_copyFrom 156 = .ok (.iconst 0, 1) := by decide +kernel
theorem dX8_copyFrom_157 : decode cX8_copyFrom 157 = .ok (.bipush 14, 2) := by decide +kernel
theorem dX8_copyFrom_159 : decode cX8_copyFrom 159 = .ok (.invokestatic 63, 3) := by decide +kernel
theorem dX8_copyFrom_162 : decode cX8_copyFrom 162 = .ok (.return_, 1) := by decide +kernel
set_option maxRecDepth 20000 in
theorem ggX8_statusOf_X11_contains : GoodIn wsX8_statusOf wsX11_contains := goodIn_r _ [6] rfl (by decide +kernel)
set_option maxRecDepth 20000 in
theorem gX8_statusOf_X11_contains_n75 : GoodIn wsX8_statusOf (wsX11_contains) := ggX8_statusOf_X11_contains
theorem dX8_statusOf_0 : decode cX8_statusOf 0 = .ok (.aload_n 0, 1) := by decide +kernel
theorem dX8_statusOf_1 : decode cX8_statusOf 1 = .ok (.getfield 53, 3) := by decide +kernel
theorem dX8_statusOf_4 : decode cX8_statusOf 4 = .ok (.iload_n 1, 1) := by decide +kernel
theorem dX8_statusOf_5 : decode cX8_statusOf 5 = .ok (.invokestatic 75, 3) := by decide +kernel
theorem dX8_statusOf_8 : decode cX8_statusOf 8 = .ok (.ifCond .eq 5, 3) := by decide +kernel
theorem dX8_statusOf_11 : decode cX8_statusOf 11 = .ok (.iconst 1, 1) := by decide +kernel
theorem dX8_statusOf_12 : decode cX8_statusOf 12 = .ok (.ireturn, 1) := by decide +kernel
theorem dX8_statusOf_13 : decode cX8_statusOf 13 = .ok (.aload_n 0, 1) := by decide +kernel
theorem dX8_statusOf_14 : decode cX8_statusOf 14 = .ok (.getfield 56, 3) := by decide +kernel
theorem dX8_statusOf_17 : decode cX8_statusOf 17 = .ok (.iload_n 1, 1) := by decide +kernel
theorem dX8_statusOf_18 : decode cX8_statusOf 18 = .ok (.invokestatic 75, 3) := by decide +kernel
theorem dX8_statusOf_21 : decode cX8_statusOf 21 = .ok (.ifCond .eq 5, 3) := by decide +kernel
theorem dX8_statusOf_24 : decode cX8_statusOf 24 = .ok (.iconst 2, 1) := by decide +kernel
theorem dX8_statusOf_25 : decode cX8_statusOf 25 = .ok (.ireturn, 1) := by decide +kernel
theorem dX8_statusOf_26 : decode cX8_statusOf 26 = .ok (.aload_n 0, 1) := by decide +kernel
theorem dX8_statusOf_27 : decode cX8_statusOf 27 = .ok (.getfield 59, 3) := by decide +kernel
theorem dX8_statusOf_30 : decode cX8_statusOf 30 = .ok (.iload_n 1, 1) := by decide +kernel
theorem dX8_statusOf_31 : decode cX8_statusOf 31 = .ok (.invokestatic 75, 3) := by decide +kernel
theorem dX8_statusOf_34 : decode cX8_statusOf 34 = .ok (.ifCond .eq 7, 3) := by decide +kernel
theorem dX8_statusOf_37 : decode cX8_statusOf 37 = .ok (.iconst 3, 1) := by decide +kernel
theorem dX8_statusOf_38 : decode cX8_statusOf 38 = .ok (.goto 4, 3) := by decide +kernel
theorem dX8_statusOf_41 : decode cX8_statusOf 41 = .ok (.iconst 0, 1) := by decide +kernel
theorem dX8_statusOf_42 : decode cX8_statusOf 42 = .ok (.ireturn, 1) := by decide +kernel
theorem dX8_start_0 : decode cX8_start 0 = .ok (.aload_n 0, 1) := by decide +kernel
theorem dX8_start_1 : decode cX8_start 1 = .ok (.dup, 1) := by decide +kernel
theorem dX8_start_2 : decode cX8_start 2 = .ok (.getfield 59, 3) := by decide +kernel
theorem dX8_start_5 : decode cX8_start 5 = .ok (.iconst 1, 1) := by decide +kernel
theorem dX8_start_6 : decode cX8_start 6 = .ok (.iload_n 1, 1) := by decide +kernel
theorem dX8_start_7 : decode cX8_start 7 = .ok (.ishl, 1) := by decide +kernel
theorem dX8_start_8 : decode cX8_start 8 = .ok (.iconst (-1), 1) := by decide +kernel
theorem dX8_start_9 : decode cX8_start 9 = .ok (.ixor, 1) := by decide +kernel
theorem dX8_start_10 : decode cX8_start 10 = .ok (.iand, 1) := by decide +kernel
theorem dX8_start_11 : decode cX8_start 11 = .ok (.putfield 59, 3) := by decide +kernel
theorem dX8_start_14 : decode cX8_start 14 = .ok (.aload_n 0, 1) := by decide +kernel
theorem dX8_start_15 : decode cX8_start 15 = .ok (.dup, 1) := by decide +kernel
theorem dX8_start_16 : decode cX8_start 16 = .ok (.getfield 53, 3) := by decide +kernel
theorem dX8_start_19 : decode cX8_start 19 = .ok (.iconst 1, 1) := by decide +kernel
theorem dX8_start_20 : decode cX8_start 20 = .ok (.iload_n 1, 1) := by decide +kernel
theorem dX8_start_21 : decode cX8_start 21 = .ok (.ishl, 1) := by decide +kernel
theorem dX8_start_22 : decode cX8_start 22 = .ok (.ior, 1) := by decide +kernel
theorem dX8_start_23 : decode cX8_start 23 = .ok (.putfield 53, 3) := by decide +kernel
theorem dX8_start_26 : decode cX8_start 26 = .ok (.aload_n 0, 1) := by decide +kernel
theorem dX8_start_27 : decode cX8_start 27 = .ok (.getfield 15, 3) := by decide +kernel
theorem dX8_start_30 : decode cX8_start 30 = .ok (.iload_n 1, 1) := by decide +kernel
theorem dX8_start_31 : decode cX8_start 31 = .ok (.aload_n 0, 1) := by decide +kernel
theorem dX8_start_32 : decode cX8_start 32 = .ok (.getfield 9, 3) := by decide +kernel
theorem dX8_start_35 : decode cX8_start 35 = .ok (.iload_n 1, 1) := by decide +kernel
theorem dX8_start_36 : decode cX8_start 36 = .ok (.iaload, 1) := by decide +kernel
theorem dX8_start_37 : decode cX8_start 37 = .ok (.iastore, 1) := by decide +kernel
theorem dX8_start_38 : decode cX8_start 38 = .ok (.aload_n 0, 1) := by decide +kernel
theorem dX8_start_39 : decode cX8_start 39 = .ok (.getfield 21, 3) := by decide +kernel
theorem dX8_start_42 : decode cX8_start 42 = .ok (.iload_n 1, 1) := by decide +kernel
theorem dX8_start_43 : decode cX8_start 43 = .ok (.dup2, 1) := by decide +kernel
theorem dX8_start_44 : decode cX8_start 44 = .ok (.iaload, 1) := by decide +kernel
theorem dX8_start_45 : decode cX8_start 45 = .ok (.iconst 1, 1) := by decide +kernel
theorem dX8_start_46 : decode cX8_start 46 = .ok (.iadd, 1) := by decide +kernel
theorem dX8_start_47 : decode cX8_start 47 = .ok (.iastore, 1) := by decide +kernel
theorem dX8_start_48 : decode cX8_start 48 = .ok (.return_, 1) := by decide +kernel
theorem dX8_complete_0 : decode cX8_complete 0 = .ok (.aload_n 0, 1) := by decide +kernel
theorem dX8_complete_1 : decode cX8_complete 1 = .ok (.dup, 1) := by decide +kernel
theorem dX8_complete_2 : decode cX8_complete 2 = .ok (.getfield 53, 3) := by decide +kernel
theorem dX8_complete_5 : decode cX8_complete 5 = .ok (.iconst 1, 1) := by decide +kernel
theorem dX8_complete_6 : decode cX8_complete 6 = .ok (.iload_n 1, 1) := by decide +kernel
theorem dX8_complete_7 : decode cX8_complete 7 = .ok (.ishl, 1) := by decide +kernel
theorem dX8_complete_8 : decode cX8_complete 8 = .ok (.iconst (-1), 1) := by decide +kernel
theorem dX8_complete_9 : decode cX8_complete 9 = .ok (.ixor, 1) := by decide +kernel
theorem dX8_complete_10 : decode cX8_complete 10 = .ok (.iand, 1) := by decide +kernel
theorem dX8_complete_11 : decode cX8_complete 11 = .ok (.putfield 53, 3) := by decide +kernel
theorem dX8_complete_14 : decode cX8_complete 14 = .ok (.aload_n 0, 1) := by decide +kernel
theorem dX8_complete_15 : decode cX8_complete 15 = .ok (.dup, 1) := by decide +kernel
theorem dX8_complete_16 : decode cX8_complete 16 = .ok (.getfield 56, 3) := by decide +kernel
theorem dX8_complete_19 : decode cX8_complete 19 = .ok (.iconst 1, 1) := by decide +kernel
theorem dX8_complete_20 : decode cX8_complete 20 = .ok (.iload_n 1, 1) := by decide +kernel
theorem dX8_complete_21 : decode cX8_complete 21 = .ok (.ishl, 1) := by decide +kernel
theorem dX8_complete_22 : decode cX8_complete 22 = .ok (.ior, 1) := by decide +kernel
theorem dX8_complete_23 : decode cX8_complete 23 = .ok (.putfield 56, 3) := by decide +kernel
theorem dX8_complete_26 : decode cX8_complete 26 = .ok (.aload_n 0, 1) := by decide +kernel
theorem dX8_complete_27 : decode cX8_complete 27 = .ok (.getfield 24, 3) := by decide +kernel
theorem dX8_complete_30 : decode cX8_complete 30 = .ok (.iload_n 1, 1) := by decide +kernel
theorem dX8_complete_31 : decode cX8_complete 31 = .ok (.dup2, 1) := by decide +kernel
theorem dX8_complete_32 : decode cX8_complete 32 = .ok (.iaload, 1) := by decide +kernel
theorem dX8_complete_33 : decode cX8_complete 33 = .ok (.iconst 1, 1) := by decide +kernel
theorem dX8_complete_34 : decode cX8_complete 34 = .ok (.iadd, 1) := by decide +kernel
theorem dX8_complete_35 : decode cX8_complete 35 = .ok (.iastore, 1) := by decide +kernel
theorem dX8_complete_36 : decode cX8_complete 36 = .ok (.return_, 1) := by decide +kernel
theorem dX8_burn_0 : decode cX8_burn 0 = .ok (.aload_n 0, 1) := by decide +kernel
theorem dX8_burn_1 : decode cX8_burn 1 = .ok (.dup, 1) := by decide +kernel
theorem dX8_burn_2 : decode cX8_burn 2 = .ok (.getfield 56, 3) := by decide +kernel
theorem dX8_burn_5 : decode cX8_burn 5 = .ok (.iconst 1, 1) := by decide +kernel
theorem dX8_burn_6 : decode cX8_burn 6 = .ok (.iload_n 1, 1) := by decide +kernel
theorem dX8_burn_7 : decode cX8_burn 7 = .ok (.ishl, 1) := by decide +kernel
theorem dX8_burn_8 : decode cX8_burn 8 = .ok (.iconst (-1), 1) := by decide +kernel
theorem dX8_burn_9 : decode cX8_burn 9 = .ok (.ixor, 1) := by decide +kernel
theorem dX8_burn_10 : decode cX8_burn 10 = .ok (.iand, 1) := by decide +kernel
theorem dX8_burn_11 : decode cX8_burn 11 = .ok (.putfield 56, 3) := by decide +kernel
theorem dX8_burn_14 : decode cX8_burn 14 = .ok (.aload_n 0, 1) := by decide +kernel
theorem dX8_burn_15 : decode cX8_burn 15 = .ok (.dup, 1) := by decide +kernel
theorem dX8_burn_16 : decode cX8_burn 16 = .ok (.getfield 59, 3) := by decide +kernel
theorem dX8_burn_19 : decode cX8_burn 19 = .ok (.iconst 1, 1) := by decide +kernel
theorem dX8_burn_20 : decode cX8_burn 20 = .ok (.iload_n 1, 1) := by decide +kernel
theorem dX8_burn_21 : decode cX8_burn 21 = .ok (.ishl, 1) := by decide +kernel
theorem dX8_burn_22 : decode cX8_burn 22 = .ok (.ior, 1) := by decide +kernel
theorem dX8_burn_23 : decode cX8_burn 23 = .ok (.putfield 59, 3) := by decide +kernel
theorem dX8_burn_26 : decode cX8_burn 26 = .ok (.aload_n 0, 1) := by decide +kernel
theorem dX8_burn_27 : decode cX8_burn 27 = .ok (.getfield 18, 3) := by decide +kernel
theorem dX8_burn_30 : decode cX8_burn 30 = .ok (.iload_n 1, 1) := by decide +kernel
theorem dX8_burn_31 : decode cX8_burn 31 = .ok (.iconst 0, 1) := by decide +kernel
theorem dX8_burn_32 : decode cX8_burn 32 = .ok (.iastore, 1) := by decide +kernel
theorem dX8_burn_33 : decode cX8_burn 33 = .ok (.aload_n 0, 1) := by decide +kernel
theorem dX8_burn_34 : decode cX8_burn 34 = .ok (.getfield 27, 3) := by decide +kernel
theorem dX8_burn_37 : decode cX8_burn 37 = .ok (.iload_n 1, 1) := by decide +kernel
theorem dX8_burn_38 : decode cX8_burn 38 = .ok (.dup2, 1) := by decide +kernel
theorem dX8_burn_39 : decode cX8_burn 39 = .ok (.iaload, 1) := by decide +kernel
theorem dX8_burn_40 : decode cX8_burn 40 = .ok (.iconst 1, 1) := by decide +kernel
theorem dX8_burn_41 : decode cX8_burn 41 = .ok (.iadd, 1) := by decide +kernel
theorem dX8_burn_42 : decode cX8_burn 42 = .ok (.iastore, 1) := by decide +kernel
theorem dX8_burn_43 : decode cX8_burn 43 = .ok (.return_, 1) := by decide +kernel
theorem dX8_halt_0 : decode cX8_halt 0 = .ok (.aload_n 0, 1) := by decide +kernel
theorem dX8_halt_1 : decode cX8_halt 1 = .ok (.getfield 15, 3) := by decide +kernel
theorem dX8_halt_4 : decode cX8_halt 4 = .ok (.iload_n 1, 1) := by decide +kernel
theorem dX8_halt_5 : decode cX8_halt 5 = .ok (.iaload, 1) := by decide +kernel
theorem dX8_halt_6 : decode cX8_halt 6 = .ok (.istore_n 2, 1) := by decide +kernel
theorem dX8_halt_7 : decode cX8_halt 7 = .ok (.aload_n 0, 1) := by decide +kernel
theorem dX8_halt_8 : decode cX8_halt 8 = .ok (.dup, 1) := by decide +kernel
theorem dX8_halt_9 : decode cX8_halt 9 = .ok (.getfield 53, 3) := by decide +kernel
theorem dX8_halt_12 : decode cX8_halt 12 = .ok (.iconst 1, 1) := by decide +kernel
theorem dX8_halt_13 : decode cX8_halt 13 = .ok (.iload_n 1, 1) := by decide +kernel
theorem dX8_halt_14 : decode cX8_halt 14 = .ok (.ishl, 1) := by decide +kernel
theorem dX8_halt_15 : decode cX8_halt 15 = .ok (.iconst (-1), 1) := by decide +kernel
theorem dX8_halt_16 : decode cX8_halt 16 = .ok (.ixor, 1) := by decide +kernel
theorem dX8_halt_17 : decode cX8_halt 17 = .ok (.iand, 1) := by decide +kernel
theorem dX8_halt_18 : decode cX8_halt 18 = .ok (.putfield 53, 3) := by decide +kernel
theorem dX8_halt_21 : decode cX8_halt 21 = .ok (.aload_n 0, 1) := by decide +kernel
theorem dX8_halt_22 : decode cX8_halt 22 = .ok (.getfield 15, 3) := by decide +kernel
theorem dX8_halt_25 : decode cX8_halt 25 = .ok (.iload_n 1, 1) := by decide +kernel
theorem dX8_halt_26 : decode cX8_halt 26 = .ok (.iconst 0, 1) := by decide +kernel
theorem dX8_halt_27 : decode cX8_halt 27 = .ok (.iastore, 1) := by decide +kernel
theorem dX8_halt_28 : decode cX8_halt 28 = .ok (.aload_n 0, 1) := by decide +kernel
theorem dX8_halt_29 : decode cX8_halt 29 = .ok (.dup, 1) := by decide +kernel
theorem dX8_halt_30 : decode cX8_halt 30 = .ok (.getfield 46, 3) := by decide +kernel
theorem dX8_halt_33 : decode cX8_halt 33 = .ok (.iconst 1, 1) := by decide +kernel
theorem dX8_halt_34 : decode cX8_halt 34 = .ok (.iadd, 1) := by decide +kernel
theorem dX8_halt_35 : decode cX8_halt 35 = .ok (.putfield 46, 3) := by decide +kernel
theorem dX8_halt_38 : decode cX8_halt 38 = .ok (.iload_n 2, 1) := by decide +kernel
theorem dX8_halt_39 : decode cX8_halt 39 = .ok (.ireturn, 1) := by decide +kernel
theorem dX8_discard_0 : decode cX8_discard 0 = .ok (.aload_n 0, 1) := by decide +kernel
theorem dX8_discard_1 : decode cX8_discard 1 = .ok (.getfield 18, 3) := by decide +kernel
theorem dX8_discard_4 : decode cX8_discard 4 = .ok (.iload_n 1, 1) := by decide +kernel
theorem dX8_discard_5 : decode cX8_discard 5 = .ok (.iaload, 1) := by decide +kernel
theorem dX8_discard_6 : decode cX8_discard 6 = .ok (.istore_n 2, 1) := by decide +kernel
theorem dX8_discard_7 : decode cX8_discard 7 = .ok (.aload_n 0, 1) := by decide +kernel
theorem dX8_discard_8 : decode cX8_discard 8 = .ok (.dup, 1) := by decide +kernel
theorem dX8_discard_9 : decode cX8_discard 9 = .ok (.getfield 56, 3) := by decide +kernel
theorem dX8_discard_12 : decode cX8_discard 12 = .ok (.iconst 1, 1) := by decide +kernel
theorem dX8_discard_13 : decode cX8_discard 13 = .ok (.iload_n 1, 1) := by decide +kernel
theorem dX8_discard_14 : decode cX8_discard 14 = .ok (.ishl, 1) := by decide +kernel
theorem dX8_discard_15 : decode cX8_discard 15 = .ok (.iconst (-1), 1) := by decide +kernel
theorem dX8_discard_16 : decode cX8_discard 16 = .ok (.ixor, 1) := by decide +kernel
theorem dX8_discard_17 : decode cX8_discard 17 = .ok (.iand, 1) := by decide +kernel
theorem dX8_discard_18 : decode cX8_discard 18 = .ok (.putfield 56, 3) := by decide +kernel
theorem dX8_discard_21 : decode cX8_discard 21 = .ok (.aload_n 0, 1) := by decide +kernel
theorem dX8_discard_22 : decode cX8_discard 22 = .ok (.getfield 18, 3) := by decide +kernel
theorem dX8_discard_25 : decode cX8_discard 25 = .ok (.iload_n 1, 1) := by decide +kernel
theorem dX8_discard_26 : decode cX8_discard 26 = .ok (.iconst 0, 1) := by decide +kernel
theorem dX8_discard_27 : decode cX8_discard 27 = .ok (.iastore, 1) := by decide +kernel
theorem dX8_discard_28 : decode cX8_discard 28 = .ok (.iload_n 2, 1) := by decide +kernel
theorem dX8_discard_29 : decode cX8_discard 29 = .ok (.ireturn, 1) := by decide +kernel
theorem dX9_init_0 : decode cX9_init 0 = .ok (.aload_n 0, 1) := by decide +kernel
theorem dX9_init_1 : decode cX9_init 1 = .ok (.invokespecial 1, 3) := by decide +kernel
theorem dX9_init_4 : decode cX9_init 4 = .ok (.aload_n 0, 1) := by decide +kernel
theorem dX9_init_5 : decode cX9_init 5 = .ok (.iload_n 1, 1) := by decide +kernel
theorem dX9_init_6 : decode cX9_init 6 = .ok (.newarray .byte, 2) := by decide +kernel
theorem dX9_init_8 : decode cX9_init 8 = .ok (.putfield 7, 3) := by decide +kernel
theorem dX9_init_11 : decode cX9_init 11 = .ok (.return_, 1) := by decide +kernel
theorem dX9_addByte_0 : decode cX9_addByte 0 = .ok (.aload_n 0, 1) := by decide +kernel
theorem dX9_addByte_1 : decode cX9_addByte 1 = .ok (.getfield 13, 3) := by decide +kernel
theorem dX9_addByte_4 : decode cX9_addByte 4 = .ok (.aload_n 0, 1) := by decide +kernel
theorem dX9_addByte_5 : decode cX9_addByte 5 = .ok (.getfield 7, 3) := by decide +kernel
theorem dX9_addByte_8 : decode cX9_addByte 8 = .ok (.arraylength, 1) := by decide +kernel
theorem dX9_addByte_9 : decode cX9_addByte 9 = .ok (.if_icmp .ge 24, 3) := by decide +kernel
theorem dX9_addByte_12 : decode cX9_addByte 12 = .ok (.aload_n 0, 1) := by decide +kernel
theorem dX9_addByte_13 : decode cX9_addByte 13 = .ok (.getfield 7, 3) := by decide +kernel
theorem dX9_addByte_16 : decode cX9_addByte 16 = .ok (.aload_n 0, 1) := by decide +kernel
theorem dX9_addByte_17 : decode cX9_addByte 17 = .ok (.getfield 13, 3) := by decide +kernel
theorem dX9_addByte_20 : decode cX9_addByte 20 = .ok (.iload_n 1, 1) := by decide +kernel
theorem dX9_addByte_21 : decode cX9_addByte 21 = .ok (.i2b, 1) := by decide +kernel
theorem dX9_addByte_22 : decode cX9_addByte 22 = .ok (.bastore, 1) := by decide +kernel
theorem dX9_addByte_23 : decode cX9_addByte 23 = .ok (.aload_n 0, 1) := by decide +kernel
theorem dX9_addByte_24 : decode cX9_addByte 24 = .ok (.dup, 1) := by decide +kernel
theorem dX9_addByte_25 : decode cX9_addByte 25 = .ok (.getfield 13, 3) := by decide +kernel
theorem dX9_addByte_28 : decode cX9_addByte 28 = .ok (.iconst 1, 1) := by decide +kernel
theorem dX9_addByte_29 : decode cX9_addByte 29 = .ok (.iadd, 1) := by decide +kernel
theorem dX9_addByte_30 : decode cX9_addByte 30 = .ok (.putfield 13, 3) := by decide +kernel
theorem dX9_addByte_33 : decode cX9_addByte 33 = .ok (.return_, 1) := by decide +kernel
set_option maxRecDepth 20000 in
theorem ggX9_addFourBytes_X9_addByte : GoodIn wsX9_addFourBytes wsX9_addByte := goodIn_r _ [5, 6, 7, 8, 9] rfl (by decide +kernel)
set_option maxRecDepth 20000 in
theorem gX9_addFourBytes_X9_addByte : GoodIn wsX9_addFourBytes (wsV RX9 17 RX9 yX9_addByte wsX9_addByte) := goodIn_app (goodIn_of _ (by decide +kernel)) ggX9_addFourBytes_X9_addByte
theorem dX9_addFourBytes_0 : decode cX9_addFourBytes 0 = .ok (.aload_n 0, 1) := by decide +kernel
theorem dX9_addFourBytes_1 : decode cX9_addFourBytes 1 = .ok (.iload_n 1, 1) := by decide +kernel
theorem dX9_addFourBytes_2 : decode cX9_addFourBytes 2 = .ok (.bipush 24, 2) := by decide +kernel
theorem dX9_addFourBytes_4 : decode cX9_addFourBytes 4 = .ok (.iushr, 1) := by decide +kernel
theorem dX9_addFourBytes_5 : decode cX9_addFourBytes 5 = .ok (.invokevirtual 17, 3) := by decide +kernel
theorem dX9_addFourBytes_8 : decode cX9_addFourBytes 8 = .ok (.aload_n 0, 1) := by decide +kernel
theorem dX9_addFourBytes_9 : decode cX9_addFourBytes 9 = .ok (.iload_n 1, 1) := by decide +kernel
theorem dX9_addFourBytes_10 : decode cX9_addFourBytes 10 = .ok (.bipush 16, 2) := by decide +kernel
theorem dX9_addFourBytes_12 : decode cX9_addFourBytes 12 = .ok (.iushr, 1) := by decide +kernel
theorem dX9_addFourBytes_13 : decode cX9_addFourBytes 13 = .ok (.invokevirtual 17, 3) := by decide +kernel
theorem dX9_addFourBytes_16 : decode cX9_addFourBytes 16 = .ok (.aload_n 0, 1) := by decide +kernel
theorem dX9_addFourBytes_17 : decode cX9_addFourBytes 17 = .ok (.iload_n 1, 1) := by decide +kernel
theorem dX9_addFourBytes_18 : decode cX9_addFourBytes 18 = .ok (.bipush 8, 2) := by decide +kernel
theorem dX9_addFourBytes_20 : decode cX9_addFourBytes 20 = .ok (.iushr, 1) := by decide +kernel
theorem dX9_addFourBytes_21 : decode cX9_addFourBytes 21 = .ok (.invokevirtual 17, 3) := by decide +kernel
theorem dX9_addFourBytes_24 : decode cX9_addFourBytes 24 = .ok (.aload_n 0, 1) := by decide +kernel
theorem dX9_addFourBytes_25 : decode cX9_addFourBytes 25 = .ok (.iload_n 1, 1) := by decide +kernel
theorem dX9_addFourBytes_26 : decode cX9_addFourBytes 26 = .ok (.invokevirtual 17, 3) := by decide +kernel
theorem dX9_addFourBytes_29 : decode cX9_addFourBytes 29 = .ok (.return_, 1) := by decide +kernel
