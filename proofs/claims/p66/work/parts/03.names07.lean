theorem dX12_isReady_0 : decode cX12_isReady 0 = .ok (.aload_n 0, 1) := by decide +kernel
theorem dX12_isReady_1 : decode cX12_isReady 1 = .ok (.getfield 7, 3) := by decide +kernel
theorem dX12_isReady_4 : decode cX12_isReady 4 = .ok (.iload_n 1, 1) := by decide +kernel
theorem dX12_isReady_5 : decode cX12_isReady 5 = .ok (.iaload, 1) := by decide +kernel
theorem dX12_isReady_6 : decode cX12_isReady 6 = .ok (.iconst 1, 1) := by decide +kernel
theorem dX12_isReady_7 : decode cX12_isReady 7 = .ok (.if_icmp .eq 13, 3) := by decide +kernel
theorem dX12_isReady_10 : decode cX12_isReady 10 = .ok (.aload_n 0, 1) := by decide +kernel
theorem dX12_isReady_11 : decode cX12_isReady 11 = .ok (.getfield 7, 3) := by decide +kernel
theorem dX12_isReady_14 : decode cX12_isReady 14 = .ok (.iload_n 1, 1) := by decide +kernel
theorem dX12_isReady_15 : decode cX12_isReady 15 = .ok (.iaload, 1) := by decide +kernel
theorem dX12_isReady_16 : decode cX12_isReady 16 = .ok (.iconst 2, 1) := by decide +kernel
theorem dX12_isReady_17 : decode cX12_isReady 17 = .ok (.if_icmp .ne 5, 3) := by decide +kernel
theorem dX12_isReady_20 : decode cX12_isReady 20 = .ok (.iconst 0, 1) := by decide +kernel
theorem dX12_isReady_21 : decode cX12_isReady 21 = .ok (.ireturn, 1) := by decide +kernel
theorem dX12_isReady_22 : decode cX12_isReady 22 = .ok (.iconst 0, 1) := by decide +kernel
theorem dX12_isReady_23 : decode cX12_isReady 23 = .ok (.istore_n 2, 1) := by decide +kernel
theorem dX12_isReady_24 : decode cX12_isReady 24 = .ok (.iload_n 2, 1) := by decide +kernel
theorem dX12_isReady_25 : decode cX12_isReady 25 = .ok (.iconst 4, 1) := by decide +kernel
theorem dX12_isReady_26 : decode cX12_isReady 26 = .ok (.if_icmp .ge 35, 3) := by decide +kernel
theorem dX12_isReady_29 : decode cX12_isReady 29 = .ok (.aload_n 0, 1) := by decide +kernel
theorem dX12_isReady_30 : decode cX12_isReady 30 = .ok (.getfield 22, 3) := by decide +kernel
theorem dX12_isReady_33 : decode cX12_isReady 33 = .ok (.iload_n 1, 1) := by decide +kernel
theorem dX12_isReady_34 : decode cX12_isReady 34 = .ok (.iload_n 2, 1) := by decide +kernel
theorem dX12_isReady_35 : decode cX12_isReady 35 = .ok (.invokevirtual 79, 3) := by decide +kernel
theorem dX12_isReady_38 : decode cX12_isReady 38 = .ok (.istore_n 3, 1) := by decide +kernel
theorem dX12_isReady_39 : decode cX12_isReady 39 = .ok (.iload_n 3, 1) := by decide +kernel
theorem dX12_isReady_40 : decode cX12_isReady 40 = .ok (.ifCond .lt 15, 3) := by decide +kernel
theorem dX12_isReady_43 : decode cX12_isReady 43 = .ok (.aload_n 0, 1) := by decide +kernel
theorem dX12_isReady_44 : decode cX12_isReady 44 = .ok (.getfield 7, 3) := by decide +kernel
theorem dX12_isReady_47 : decode cX12_isReady 47 = .ok (.iload_n 3, 1) := by decide +kernel
theorem dX12_isReady_48 : decode cX12_isReady 48 = .ok (.iaload, 1) := by decide +kernel
theorem dX12_isReady_49 : decode cX12_isReady 49 = .ok (.iconst 2, 1) := by decide +kernel
theorem dX12_isReady_50 : decode cX12_isReady 50 = .ok (.if_icmp .eq 5, 3) := by decide +kernel
theorem dX12_isReady_53 : decode cX12_isReady 53 = .ok (.iconst 0, 1) := by decide +kernel
theorem dX12_isReady_54 : decode cX12_isReady 54 = .ok (.ireturn, 1) := by decide +kernel
theorem dX12_isReady_55 : decode cX12_isReady 55 = .ok (.iinc 2 1, 3) := by decide +kernel
theorem dX12_isReady_58 : decode cX12_isReady 58 = .ok (.goto (-34), 3) := by decide +kernel
theorem dX12_isReady_61 : decode cX12_isReady 61 = .ok (.iconst 1, 1) := by decide +kernel
theorem dX12_isReady_62 : decode cX12_isReady 62 = .ok (.ireturn, 1) := by decide +kernel
set_option maxRecDepth 20000 in
theorem ggX12_canStart_X11_panType : GoodIn wsX12_canStart wsX11_panType := goodIn_ca (goodIn_r _ [8, 9, 10, 11, 12, 7, 13, 14, 15, 16, 17, 18, 63, 64, 65, 66, 67, 68, 69, 70, 71, 72, 73, 74, 75, 76, 77, 78, 79, 80, 81, 82, 83, 84, 85, 86, 87, 88, 89, 90, 91, 92, 93, 94, 95, 96, 97, 98] rfl (by decide +kernel)) (goodIn_sub (fun _ h => List.mem_cons_of_mem _ (List.mem_append_right _ h)) (by decide +kernel))
set_option maxRecDepth 20000 in
theorem gX12_canStart_X11_panType : GoodIn wsX12_canStart (wsV RX12 83 RX11 yX11_panType wsX11_panType) := goodIn_app (goodIn_of _ (by decide +kernel)) ggX12_canStart_X11_panType
set_option maxRecDepth 20000 in
theorem ggX12_canStart_X11_isUnattended : GoodIn wsX12_canStart wsX11_isUnattended := goodIn_ca (goodIn_r _ [22, 9, 10, 11, 12, 7, 13, 14, 15, 16, 17, 18, 23, 24, 25, 63, 64, 65, 66, 67, 68, 69, 70, 71, 72, 73, 74, 75, 76, 77, 78, 79, 80, 81, 82, 83, 84, 85, 86, 87, 88, 89, 90, 91, 92, 93, 94, 95, 96, 97, 98] rfl (by decide +kernel)) (goodIn_sub (fun _ h => List.mem_cons_of_mem _ (List.mem_append_right _ h)) (by decide +kernel))
set_option maxRecDepth 20000 in
theorem gX12_canStart_X11_isUnattended : GoodIn wsX12_canStart (wsV RX12 86 RX11 yX11_isUnattended wsX11_isUnattended) := goodIn_app (goodIn_of _ (by decide +kernel)) ggX12_canStart_X11_isUnattended
set_option maxRecDepth 20000 in
theorem ggX12_canStart_X12_follows : GoodIn wsX12_canStart wsX12_follows := goodIn_ca (goodIn_r _ [30, 2, 3, 31, 32, 33, 29, 34, 1, 35, 36, 37, 7, 38, 9, 10, 11, 12, 13, 14, 15, 16, 17, 18, 51, 52, 53, 54, 55, 56, 57, 58, 59, 60, 61, 62, 63, 64, 65, 66, 67, 68, 69, 70, 71, 72, 73, 74, 75, 76, 77, 78, 79, 80, 81, 82, 83, 84, 85, 86, 87, 88, 89, 90, 91, 92, 93, 94, 95, 96, 97, 98] rfl (by decide +kernel)) (goodIn_sub (fun _ h => List.mem_cons_of_mem _ (List.mem_append_right _ h)) (by decide +kernel))
set_option maxRecDepth 20000 in
theorem gX12_canStart_X12_follows : GoodIn wsX12_canStart (wsV RX12 90 RX12 yX12_follows wsX12_follows) := goodIn_app (goodIn_of _ (by decide +kernel)) ggX12_canStart_X12_follows
set_option maxRecDepth 20000 in
theorem ggX12_canStart_X11_cooks : GoodIn wsX12_canStart wsX11_cooks := goodIn_r _ [42, 9, 63, 64, 65, 66, 67, 68, 69, 70, 71, 72, 73, 74, 75, 76, 77, 78, 99, 100, 101, 102, 103, 104, 105, 106, 107, 108, 109, 110, 111, 112, 113] rfl (by decide +kernel)
set_option maxRecDepth 20000 in
theorem gX12_canStart_X11_cooks : GoodIn wsX12_canStart (wsV RX12 94 RX11 yX11_cooks wsX11_cooks) := goodIn_app (goodIn_of _ (by decide +kernel)) ggX12_canStart_X11_cooks
set_option maxRecDepth 20000 in
theorem ggX12_canStart_X11_panCapacity : GoodIn wsX12_canStart wsX11_panCapacity := goodIn_ca (goodIn_r _ [46, 9, 47, 48, 49, 7, 50, 14, 15, 16, 17, 18, 63, 64, 65, 66, 67, 68, 69, 70, 71, 72, 73, 74, 75, 76, 77, 78, 79, 80, 81, 82, 83, 84, 85, 86, 87, 88, 89, 90, 91, 92, 93, 94, 95, 96, 97, 98] rfl (by decide +kernel)) (goodIn_sub (fun _ h => List.mem_cons_of_mem _ (List.mem_append_right _ h)) (by decide +kernel))
set_option maxRecDepth 20000 in
theorem gX12_canStart_X11_panCapacity : GoodIn wsX12_canStart (wsV RX12 97 RX11 yX11_panCapacity wsX11_panCapacity) := goodIn_app (goodIn_of _ (by decide +kernel)) ggX12_canStart_X11_panCapacity
theorem dX12_canStart_0 : decode cX12_canStart 0 = .ok (.iconst 0, 1) := by decide +kernel
theorem dX12_canStart_1 : decode cX12_canStart 1 = .ok (.istore_n 2, 1) := by decide +kernel
theorem dX12_canStart_2 : decode cX12_canStart 2 = .ok (.iconst 0, 1) := by decide +kernel
theorem dX12_canStart_3 : decode cX12_canStart 3 = .ok (.istore_n 3, 1) := by decide +kernel
theorem dX12_canStart_4 : decode cX12_canStart 4 = .ok (.aload_n 0, 1) := by decide +kernel
theorem dX12_canStart_5 : decode cX12_canStart 5 = .ok (.getfield 22, 3) := by decide +kernel
theorem dX12_canStart_8 : decode cX12_canStart 8 = .ok (.iload_n 1, 1) := by decide +kernel
theorem dX12_canStart_9 : decode cX12_canStart 9 = .ok (.invokevirtual 83, 3) := by decide +kernel
theorem dX12_canStart_12 : decode cX12_canStart 12 = .ok (.istore 4, 2) := by decide +kernel
theorem dX12_canStart_14 : decode cX12_canStart 14 = .ok (.iconst 0, 1) := by decide +kernel
theorem dX12_canStart_15 : decode cX12_canStart 15 = .ok (.istore 5, 2) := by decide +kernel
theorem dX12_canStart_17 : decode cX12_canStart 17 = .ok (.iload 5, 2) := by decide +kernel
theorem dX12_canStart_19 : decode cX12_canStart 19 = .ok (.aload_n 0, 1) := by decide +kernel
theorem dX12_canStart_20 : decode cX12_canStart 20 = .ok (.getfield 36, 3) := by decide +kernel
theorem dX12_canStart_23 : decode cX12_canStart 23 = .ok (.if_icmp .ge 90, 3) := by decide +kernel
theorem dX12_canStart_26 : decode cX12_canStart 26 = .ok (.aload_n 0, 1) := by decide +kernel
theorem dX12_canStart_27 : decode cX12_canStart 27 = .ok (.getfield 7, 3) := by decide +kernel
theorem dX12_canStart_30 : decode cX12_canStart 30 = .ok (.iload 5, 2) := by decide +kernel
theorem dX12_canStart_32 : decode cX12_canStart 32 = .ok (.iaload, 1) := by decide +kernel
theorem dX12_canStart_33 : decode cX12_canStart 33 = .ok (.iconst 1, 1) := by decide +kernel
theorem dX12_canStart_34 : decode cX12_canStart 34 = .ok (.if_icmp .ne 18, 3) := by decide +kernel
theorem dX12_canStart_37 : decode cX12_canStart 37 = .ok (.aload_n 0, 1) := by decide +kernel
theorem dX12_canStart_38 : decode cX12_canStart 38 = .ok (.getfield 22, 3) := by decide +kernel
theorem dX12_canStart_41 : decode cX12_canStart 41 = .ok (.iload 5, 2) := by decide +kernel
theorem dX12_canStart_43 : decode cX12_canStart 43 = .ok (.invokevirtual 86, 3) := by decide +kernel
theorem dX12_canStart_46 : decode cX12_canStart 46 = .ok (.ifCond .ne 6, 3) := by decide +kernel
theorem dX12_canStart_49 : decode cX12_canStart 49 = .ok (.iinc 2 1, 3) := by decide +kernel
theorem dX12_canStart_52 : decode cX12_canStart 52 = .ok (.iload 4, 2) := by decide +kernel
theorem dX12_canStart_54 : decode cX12_canStart 54 = .ok (.ifCond .lt 53, 3) := by decide +kernel
theorem dX12_canStart_57 : decode cX12_canStart 57 = .ok (.aload_n 0, 1) := by decide +kernel
theorem dX12_canStart_58 : decode cX12_canStart 58 = .ok (.getfield 22, 3) := by decide +kernel
theorem dX12_canStart_61 : decode cX12_canStart 61 = .ok (.iload 5, 2) := by decide +kernel
theorem dX12_canStart_63 : decode cX12_canStart 63 = .ok (.invokevirtual 83, 3) := by decide +kernel
theorem dX12_canStart_66 : decode cX12_canStart 66 = .ok (.iload 4, 2) := by decide +kernel
theorem dX12_canStart_68 : decode cX12_canStart 68 = .ok (.if_icmp .ne 39, 3) := by decide +kernel
theorem dX12_canStart_71 : decode cX12_canStart 71 = .ok (.aload_n 0, 1) := by decide +kernel
theorem dX12_canStart_72 : decode cX12_canStart 72 = .ok (.getfield 7, 3) := by decide +kernel
theorem dX12_canStart_75 : decode cX12_canStart 75 = .ok (.iload 5, 2) := by decide +kernel
theorem dX12_canStart_77 : decode cX12_canStart 77 = .ok (.iaload, 1) := by decide +kernel
theorem dX12_canStart_78 : decode cX12_canStart 78 = .ok (.iconst 1, 1) := by decide +kernel
theorem dX12_canStart_79 : decode cX12_canStart 79 = .ok (.if_icmp .eq 25, 3) := by decide +kernel
theorem dX12_canStart_82 : decode cX12_canStart 82 = .ok (.aload_n 0, 1) := by decide +kernel
theorem dX12_canStart_83 : decode cX12_canStart 83 = .ok (.getfield 7, 3) := by decide +kernel
theorem dX12_canStart_86 : decode cX12_canStart 86 = .ok (.iload 5, 2) := by decide +kernel
theorem dX12_canStart_88 : decode cX12_canStart 88 = .ok (.iaload, 1) := by decide +kernel
theorem dX12_canStart_89 : decode cX12_canStart 89 = .ok (.iconst 2, 1) := by decide +kernel
theorem dX12_canStart_90 : decode cX12_canStart 90 = .ok (.if_icmp .ne 17, 3) := by decide +kernel
theorem dX12_canStart_93 : decode cX12_canStart 93 = .ok (.aload_n 0, 1) := by decide +kernel
theorem dX12_canStart_94 : decode cX12_canStart 94 = .ok (.iload 5, 2) := by decide +kernel
theorem dX12_canStart_96 : decode cX12_canStart 96 = .ok (.iconst 0, 1) := by decide +kernel
theorem dX12_canStart_97 : decode cX12_canStart 97 = .ok (.iconst 3, 1) := by decide +kernel
theorem dX12_canStart_98 : decode cX12_canStart 98 = .ok (.invokevirtual 90, 3) := by decide +kernel
theorem dX12_canStart_101 : decode cX12_canStart 101 = .ok (.ifCond .eq 6, 3) := by decide +kernel
theorem dX12_canStart_104 : decode cX12_canStart 104 = .ok (.iinc 3 1, 3) := by decide +kernel
theorem dX12_canStart_107 : decode cX12_canStart 107 = .ok (.iinc 5 1, 3) := by decide +kernel
theorem dX12_canStart_110 : decode cX12_canStart 110 = .ok (.goto (-93), 3) := by decide +kernel
theorem dX12_canStart_113 : decode cX12_canStart 113 = .ok (.aload_n 0, 1) := by decide +kernel
theorem dX12_canStart_114 : decode cX12_canStart 114 = .ok (.getfield 22, 3) := by decide +kernel
theorem dX12_canStart_117 : decode cX12_canStart 117 = .ok (.iload_n 1, 1) := by decide +kernel
theorem dX12_canStart_118 : decode cX12_canStart 118 = .ok (.invokevirtual 86, 3) := by decide +kernel
theorem dX12_canStart_121 : decode cX12_canStart 121 = .ok (.ifCond .ne 14, 3) := by decide +kernel
theorem dX12_canStart_124 : decode cX12_canStart 124 = .ok (.iload_n 2, 1) := by decide +kernel
theorem dX12_canStart_125 : decode cX12_canStart 125 = .ok (.aload_n 0, 1) := by decide +kernel
theorem dX12_canStart_126 : decode cX12_canStart 126 = .ok (.getfield 22, 3) := by decide +kernel
theorem dX12_canStart_129 : decode cX12_canStart 129 = .ok (.invokevirtual 94, 3) := by decide +kernel
theorem dX12_canStart_132 : decode cX12_canStart 132 = .ok (.if_icmp .ge 25, 3) := by decide +kernel
theorem dX12_canStart_135 : decode cX12_canStart 135 = .ok (.iload 4, 2) := by decide +kernel
theorem dX12_canStart_137 : decode cX12_canStart 137 = .ok (.ifCond .lt 16, 3) := by decide +kernel
theorem dX12_canStart_140 : decode cX12_canStart 140 = .ok (.iload_n 3, 1) := by decide +kernel
theorem dX12_canStart_141 : decode cX12_canStart 141 = .ok (.aload_n 0, 1) := by decide +kernel
theorem dX12_canStart_142 : decode cX12_canStart 142 = .ok (.getfield 22, 3) := by decide +kernel
theorem dX12_canStart_145 : decode cX12_canStart 145 = .ok (.iload 4, 2) := by decide +kernel
theorem dX12_canStart_147 : decode cX12_canStart 147 = .ok (.invokevirtual 97, 3) := by decide +kernel
theorem dX12_canStart_150 : decode cX12_canStart 150 = .ok (.if_icmp .ge 7, 3) := by decide +kernel
theorem dX12_canStart_153 : decode cX12_canStart 153 = .ok (.iconst 1, 1) := by decide +kernel
theorem dX12_canStart_154 : decode cX12_canStart 154 = .ok (.goto 4, 3) := by decide +kernel
theorem dX12_canStart_157 : decode cX12_canStart 157 = .ok (.iconst 0, 1) := by decide +kernel
theorem dX12_canStart_158 : decode cX12_canStart 158 = .ok (.ireturn, 1) := by decide +kernel
set_option maxRecDepth 20000 in
theorem ggX12_pass_X11_isUnattended : GoodIn wsX12_pass wsX11_isUnattended := goodIn_ca (goodIn_r _ [17, 18, 19, 20, 21, 16, 22, 23, 24, 25, 26, 27, 28, 29, 30, 93, 94, 95, 96, 97, 98, 99, 100, 101, 102, 103, 104, 105, 106, 107, 108, 109, 110, 111, 112, 113, 114, 115, 116, 117, 118, 119, 120, 121, 122, 123, 124, 125, 126, 127, 128] rfl (by decide +kernel)) (goodIn_sub (fun _ h => List.mem_cons_of_mem _ (List.mem_append_right _ h)) (by decide +kernel))
set_option maxRecDepth 20000 in
theorem gX12_pass_X11_isUnattended : GoodIn wsX12_pass (wsV RX12 86 RX11 yX11_isUnattended wsX11_isUnattended) := goodIn_app (goodIn_of _ (by decide +kernel)) ggX12_pass_X11_isUnattended
set_option maxRecDepth 20000 in
theorem ggX12_pass_X11_isHot : GoodIn wsX12_pass wsX11_isHot := goodIn_ca (goodIn_r _ [34, 18, 19, 20, 21, 16, 22, 23, 24, 25, 26, 27, 28, 29, 30, 93, 94, 95, 96, 97, 98, 99, 100, 101, 102, 103, 104, 105, 106, 107, 108, 109, 110, 111, 112, 113, 114, 115, 116, 117, 118, 119, 120, 121, 122, 123, 124, 125, 126, 127, 128] rfl (by decide +kernel)) (goodIn_sub (fun _ h => List.mem_cons_of_mem _ (List.mem_append_right _ h)) (by decide +kernel))
set_option maxRecDepth 20000 in
theorem gX12_pass_X11_isHot : GoodIn wsX12_pass (wsV RX12 100 RX11 yX11_isHot wsX11_isHot) := goodIn_app (goodIn_of _ (by decide +kernel)) ggX12_pass_X11_isHot
set_option maxRecDepth 20000 in
theorem ggX12_pass_X12_follows : GoodIn wsX12_pass wsX12_follows := goodIn_ca (goodIn_r _ [39, 2, 3, 40, 41, 42, 38, 43, 5, 44, 45, 46, 16, 47, 18, 19, 20, 21, 22, 23, 24, 25, 26, 27, 81, 82, 83, 84, 85, 86, 87, 88, 89, 90, 91, 92, 93, 94, 95, 96, 97, 98, 99, 100, 101, 102, 103, 104, 105, 106, 107, 108, 109, 110, 111, 112, 113, 114, 115, 116, 117, 118, 119, 120, 121, 122, 123, 124, 125, 126, 127, 128] rfl (by decide +kernel)) (goodIn_sub (fun _ h => List.mem_cons_of_mem _ (List.mem_append_right _ h)) (by decide +kernel))
set_option maxRecDepth 20000 in
theorem gX12_pass_X12_follows : GoodIn wsX12_pass (wsV RX12 90 RX12 yX12_follows wsX12_follows) := goodIn_app (goodIn_of _ (by decide +kernel)) ggX12_pass_X12_follows
set_option maxRecDepth 20000 in
theorem ggX12_pass_X12_isReady : GoodIn wsX12_pass wsX12_isReady := goodIn_ca (goodIn_r _ [51, 3, 5, 44, 45, 46, 16, 47, 18, 19, 20, 21, 22, 23, 24, 25, 26, 27, 81, 82, 83, 84, 85, 86, 87, 88, 89, 90, 91, 92, 93, 94, 95, 96, 97, 98, 99, 100, 101, 102, 103, 104, 105, 106, 107, 108, 109, 110, 111, 112, 113, 114, 115, 116, 117, 118, 119, 120, 121, 122, 123, 124, 125, 126, 127, 128] rfl (by decide +kernel)) (goodIn_sub (fun _ h => List.mem_cons_of_mem _ (List.mem_append_right _ h)) (by decide +kernel))
set_option maxRecDepth 20000 in
theorem gX12_pass_X12_isReady : GoodIn wsX12_pass (wsV RX12 103 RX12 yX12_isReady wsX12_isReady) := goodIn_app (goodIn_of _ (by decide +kernel)) ggX12_pass_X12_isReady
set_option maxRecDepth 20000 in
theorem ggX12_pass_X12_next : GoodIn wsX12_pass wsX12_next := goodIn_r _ [55, 2, 56, 81, 82, 83, 84, 85, 86, 87, 88, 89, 90, 91, 92] rfl (by decide +kernel)
set_option maxRecDepth 20000 in
theorem gX12_pass_X12_next : GoodIn wsX12_pass (wsV RX12 106 RX12 yX12_next wsX12_next) := goodIn_app (goodIn_of _ (by decide +kernel)) ggX12_pass_X12_next
set_option maxRecDepth 20000 in
theorem ggX12_pass_X12_canStart : GoodIn wsX12_pass wsX12_canStart := goodIn_ca (goodIn_r _ [60, 5, 2, 3, 61, 62, 63, 16, 64, 18, 19, 20, 21, 22, 23, 24, 25, 26, 27, 13, 14, 15, 17, 28, 29, 30, 35, 36, 37, 38, 39, 40, 41, 42, 43, 44, 45, 46, 47, 65, 66, 67, 68, 69, 70, 71, 72, 73, 74, 75, 76, 81, 82, 83, 84, 85, 86, 87, 88, 89, 90, 91, 92, 93, 94, 95, 96, 97, 98, 99, 100, 101, 102, 103, 104, 105, 106, 107, 108, 109, 110, 111, 112, 113, 114, 115, 116, 117, 118, 119, 120, 121, 122, 123, 124, 125, 126, 127, 128, 129, 130, 131, 132, 133, 134, 135, 136, 137, 138, 139, 140, 141, 142, 143] rfl (by decide +kernel)) (goodIn_sub (fun _ h => List.mem_cons_of_mem _ (List.mem_append_right _ h)) (by decide +kernel))
set_option maxRecDepth 20000 in
theorem gX12_pass_X12_canStart : GoodIn wsX12_pass (wsV RX12 110 RX12 yX12_canStart wsX12_canStart) := goodIn_app (goodIn_of _ (by decide +kernel)) ggX12_pass_X12_canStart
set_option maxRecDepth 20000 in
theorem ggX12_pass_X11_duration : GoodIn wsX12_pass wsX11_duration := goodIn_ca (goodIn_r _ [80, 18, 19, 20, 21, 16, 22, 23, 24, 25, 26, 27, 93, 94, 95, 96, 97, 98, 99, 100, 101, 102, 103, 104, 105, 106, 107, 108, 129, 130, 131, 132, 133, 134, 135, 136, 137, 138, 139, 140, 141, 142, 143, 109, 110, 111, 112, 113, 114, 115, 116, 117, 118, 119, 120, 121, 122, 123, 124, 125, 126, 127, 128] rfl (by decide +kernel)) (goodIn_sub (fun _ h => List.mem_cons_of_mem _ (List.mem_append_right _ h)) (by decide +kernel))
set_option maxRecDepth 20000 in
theorem gX12_pass_X11_duration : GoodIn wsX12_pass (wsV RX12 76 RX11 yX11_duration wsX11_duration) := goodIn_app (goodIn_of _ (by decide +kernel)) ggX12_pass_X11_duration
theorem dX12_pass_0 : decode cX12_pass 0 = .ok (.bipush 14, 2) := by decide +kernel
theorem dX12_pass_2 : decode cX12_pass 2 = .ok (.newarray .boolean, 2) := by decide +kernel
theorem dX12_pass_4 : decode cX12_pass 4 = .ok (.astore_n 1, 1) := by decide +kernel
theorem dX12_pass_5 : decode cX12_pass 5 = .ok (.iconst 0, 1) := by decide +kernel
theorem dX12_pass_6 : decode cX12_pass 6 = .ok (.istore_n 2, 1) := by decide +kernel
theorem dX12_pass_7 : decode cX12_pass 7 = .ok (.iload_n 2, 1) := by decide +kernel
theorem dX12_pass_8 : decode cX12_pass 8 = .ok (.aload_n 0, 1) := by decide +kernel
theorem dX12_pass_9 : decode cX12_pass 9 = .ok (.getfield 36, 3) := by decide +kernel
theorem dX12_pass_12 : decode cX12_pass 12 = .ok (.if_icmp .ge 97, 3) := by decide +kernel
theorem dX12_pass_15 : decode cX12_pass 15 = .ok (.aload_n 0, 1) := by decide +kernel
theorem dX12_pass_16 : decode cX12_pass 16 = .ok (.getfield 7, 3) := by decide +kernel
theorem dX12_pass_19 : decode cX12_pass 19 = .ok (.iload_n 2, 1) := by decide +kernel
theorem dX12_pass_20 : decode cX12_pass 20 = .ok (.iaload, 1) := by decide +kernel
theorem dX12_pass_21 : decode cX12_pass 21 = .ok (.iconst 1, 1) := by decide +kernel
theorem dX12_pass_22 : decode cX12_pass 22 = .ok (.if_icmp .eq 6, 3) := by decide +kernel
theorem dX12_pass_25 : decode cX12_pass 25 = .ok (.goto 78, 3) := by decide +kernel
theorem dX12_pass_28 : decode cX12_pass 28 = .ok (.aload_n 0, 1) := by decide +kernel
theorem dX12_pass_29 : decode cX12_pass 29 = .ok (.dup, 1) := by decide +kernel
theorem dX12_pass_30 : decode cX12_pass 30 = .ok (.getfield 62, 3) := by decide +kernel
theorem dX12_pass_33 : decode cX12_pass 33 = .ok (.aload_n 0, 1) := by decide +kernel
theorem dX12_pass_34 : decode cX12_pass 34 = .ok (.getfield 22, 3) := by decide +kernel
theorem dX12_pass_37 : decode cX12_pass 37 = .ok (.iload_n 2, 1) := by decide +kernel
theorem dX12_pass_38 : decode cX12_pass 38 = .ok (.invokevirtual 86, 3) := by decide +kernel
theorem dX12_pass_41 : decode cX12_pass 41 = .ok (.ifCond .eq 7, 3) := by decide +kernel
theorem dX12_pass_44 : decode cX12_pass 44 = .ok (.iconst 0, 1) := by decide +kernel
theorem dX12_pass_45 : decode cX12_pass 45 = .ok (.goto 4, 3) := by decide +kernel
theorem dX12_pass_48 : decode cX12_pass 48 = .ok (.iconst 1, 1) := by decide +kernel
theorem dX12_pass_49 : decode cX12_pass 49 = .ok (.iadd, 1) := by decide +kernel
theorem dX12_pass_50 : decode cX12_pass 50 = .ok (.putfield 62, 3) := by decide +kernel
theorem dX12_pass_53 : decode cX12_pass 53 = .ok (.aload_n 0, 1) := by decide +kernel
theorem dX12_pass_54 : decode cX12_pass 54 = .ok (.getfield 13, 3) := by decide +kernel
theorem dX12_pass_57 : decode cX12_pass 57 = .ok (.iload_n 2, 1) := by decide +kernel
theorem dX12_pass_58 : decode cX12_pass 58 = .ok (.dup2, 1) := by decide +kernel
theorem dX12_pass_59 : decode cX12_pass 59 = .ok (.iaload, 1) := by decide +kernel
theorem dX12_pass_60 : decode cX12_pass 60 = .ok (.iconst 1, 1) := by decide +kernel
theorem dX12_pass_61 : decode cX12_pass 61 = .ok (.isub, 1) := by decide +kernel
theorem dX12_pass_62 : decode cX12_pass 62 = .ok (.iastore, 1) := by decide +kernel
theorem dX12_pass_63 : decode cX12_pass 63 = .ok (.aload_n 0, 1) := by decide +kernel
theorem dX12_pass_64 : decode cX12_pass 64 = .ok (.getfield 13, 3) := by decide +kernel
theorem dX12_pass_67 : decode cX12_pass 67 = .ok (.iload_n 2, 1) := by decide +kernel
theorem dX12_pass_68 : decode cX12_pass 68 = .ok (.iaload, 1) := by decide +kernel
theorem dX12_pass_69 : decode cX12_pass 69 = .ok (.ifCond .le 6, 3) := by decide +kernel
theorem dX12_pass_72 : decode cX12_pass 72 = .ok (.goto 31, 3) := by decide +kernel
theorem dX12_pass_75 : decode cX12_pass 75 = .ok (.aload_n 0, 1) := by decide +kernel
theorem dX12_pass_76 : decode cX12_pass 76 = .ok (.getfield 7, 3) := by decide +kernel
theorem dX12_pass_79 : decode cX12_pass 79 = .ok (.iload_n 2, 1) := by decide +kernel
theorem dX12_pass_80 : decode cX12_pass 80 = .ok (.iconst 2, 1) := by decide +kernel
theorem dX12_pass_81 : decode cX12_pass 81 = .ok (.iastore, 1) := by decide +kernel
theorem dX12_pass_82 : decode cX12_pass 82 = .ok (.aload_n 0, 1) := by decide +kernel
theorem dX12_pass_83 : decode cX12_pass 83 = .ok (.getfield 16, 3) := by decide +kernel
theorem dX12_pass_86 : decode cX12_pass 86 = .ok (.iload_n 2, 1) := by decide +kernel
theorem dX12_pass_87 : decode cX12_pass 87 = .ok (.iconst 0, 1) := by decide +kernel
theorem dX12_pass_88 : decode cX12_pass 88 = .ok (.iastore, 1) := by decide +kernel
theorem dX12_pass_89 : decode cX12_pass 89 = .ok (.aload_n 1, 1) := by decide +kernel
theorem dX12_pass_90 : decode cX12_pass 90 = .ok (.iload_n 2, 1) := by decide +kernel
theorem dX12_pass_91 : decode cX12_pass 91 = .ok (.iconst 1, 1) := by decide +kernel
theorem dX12_pass_92 : decode cX12_pass 92 = .ok (.bastore, 1) := by decide +kernel
theorem dX12_pass_93 : decode cX12_pass 93 = .ok (.aload_n 0, 1) := by decide +kernel
theorem dX12_pass_94 : decode cX12_pass 94 = .ok (.dup, 1) := by decide +kernel
theorem dX12_pass_95 : decode cX12_pass 95 = .ok (.getfield 52, 3) := by decide +kernel
theorem dX12_pass_98 : decode cX12_pass 98 = .ok (.iconst 1, 1) := by decide +kernel
theorem dX12_pass_99 : decode cX12_pass 99 = .ok (.iadd, 1) := by decide +kernel
theorem dX12_pass_100 : decode cX12_pass 100 = .ok (.putfield 52, 3) := by decide +kernel
theorem dX12_pass_103 : decode cX12_pass 103 = .ok (.iinc 2 1, 3) := by decide +kernel
theorem dX12_pass_106 : decode cX12_pass 106 = .ok (.goto (-99), 3) := by decide +kernel
theorem dX12_pass_109 : decode cX12_pass 109 = .ok (.iconst 0, 1) := by decide +kernel
theorem dX12_pass_110 : decode cX12_pass 110 = .ok (.istore_n 2, 1) := by decide +kernel
theorem dX12_pass_111 : decode cX12_pass 111 = .ok (.iload_n 2, 1) := by decide +kernel
theorem dX12_pass_112 : decode cX12_pass 112 = .ok (.aload_n 0, 1) := by decide +kernel
theorem dX12_pass_113 : decode cX12_pass 113 = .ok (.getfield 36, 3) := by decide +kernel
theorem dX12_pass_116 : decode cX12_pass 116 = .ok (.if_icmp .ge 96, 3) := by decide +kernel
theorem dX12_pass_119 : decode cX12_pass 119 = .ok (.aload_n 0, 1) := by decide +kernel
theorem dX12_pass_120 : decode cX12_pass 120 = .ok (.getfield 22, 3) := by decide +kernel
theorem dX12_pass_123 : decode cX12_pass 123 = .ok (.iload_n 2, 1) := by decide +kernel
theorem dX12_pass_124 : decode cX12_pass 124 = .ok (.invokevirtual 100, 3) := by decide +kernel
theorem dX12_pass_127 : decode cX12_pass 127 = .ok (.ifCond .eq 79, 3) := by decide +kernel
theorem dX12_pass_130 : decode cX12_pass 130 = .ok (.aload_n 0, 1) := by decide +kernel
theorem dX12_pass_131 : decode cX12_pass 131 = .ok (.getfield 7, 3) := by decide +kernel
theorem dX12_pass_134 : decode cX12_pass 134 = .ok (.iload_n 2, 1) := by decide +kernel
theorem dX12_pass_135 : decode cX12_pass 135 = .ok (.iaload, 1) := by decide +kernel
theorem dX12_pass_136 : decode cX12_pass 136 = .ok (.iconst 2, 1) := by decide +kernel
theorem dX12_pass_137 : decode cX12_pass 137 = .ok (.if_icmp .ne 69, 3) := by decide +kernel
theorem dX12_pass_140 : decode cX12_pass 140 = .ok (.aload_n 1, 1) := by decide +kernel
theorem dX12_pass_141 : decode cX12_pass 141 = .ok (.iload_n 2, 1) := by decide +kernel
theorem dX12_pass_142 : decode cX12_pass 142 = .ok (.baload, 1) := by decide +kernel
theorem dX12_pass_143 : decode cX12_pass 143 = .ok (.ifCond .ne 63, 3) := by decide +kernel
theorem dX12_pass_146 : decode cX12_pass 146 = .ok (.aload_n 0, 1) := by decide +kernel
theorem dX12_pass_147 : decode cX12_pass 147 = .ok (.iload_n 2, 1) := by decide +kernel
theorem dX12_pass_148 : decode cX12_pass 148 = .ok (.iconst 1, 1) := by decide +kernel
theorem dX12_pass_149 : decode cX12_pass 149 = .ok (.iconst 2, 1) := by decide +kernel
theorem dX12_pass_150 : decode cX12_pass 150 = .ok (.invokevirtual 90, 3) := by decide +kernel
theorem dX12_pass_153 : decode cX12_pass 153 = .ok (.ifCond .eq 6, 3) := by decide +kernel
theorem dX12_pass_156 : decode cX12_pass 156 = .ok (.goto 50, 3) := by decide +kernel
theorem dX12_pass_159 : decode cX12_pass 159 = .ok (.aload_n 0, 1) := by decide +kernel
theorem dX12_pass_160 : decode cX12_pass 160 = .ok (.getfield 16, 3) := by decide +kernel
theorem dX12_pass_163 : decode cX12_pass 163 = .ok (.iload_n 2, 1) := by decide +kernel
theorem dX12_pass_164 : decode cX12_pass 164 = .ok (.dup2, 1) := by decide +kernel
theorem dX12_pass_165 : decode cX12_pass 165 = .ok (.iaload, 1) := by decide +kernel
theorem dX12_pass_166 : decode cX12_pass 166 = .ok (.iconst 1, 1) := by decide +kernel
theorem dX12_pass_167 : decode cX12_pass 167 = .ok (.iadd, 1) := by decide +kernel
theorem dX12_pass_168 : decode cX12_pass 168 = .ok (.iastore, 1) := by decide +kernel
theorem dX12_pass_169 : decode cX12_pass 169 = .ok (.aload_n 0, 1) := by decide +kernel
theorem dX12_pass_170 : decode cX12_pass 170 = .ok (.getfield 16, 3) := by decide +kernel
theorem dX12_pass_173 : decode cX12_pass 173 = .ok (.iload_n 2, 1) := by decide +kernel
theorem dX12_pass_174 : decode cX12_pass 174 = .ok (.iaload, 1) := by decide +kernel
theorem dX12_pass_175 : decode cX12_pass 175 = .ok (.aload_n 0, 1) := by decide +kernel
theorem dX12_pass_176 : decode cX12_pass 176 = .ok (.getfield 26, 3) := by decide +kernel
theorem dX12_pass_179 : decode cX12_pass 179 = .ok (.if_icmp .le 27, 3) := by decide +kernel
theorem dX12_pass_182 : decode cX12_pass 182 = .ok (.aload_n 0, 1) := by decide +kernel
theorem dX12_pass_183 : decode cX12_pass 183 = .ok (.getfield 7, 3) := by decide +kernel
theorem dX12_pass_186 : decode cX12_pass 186 = .ok (.iload_n 2, 1) := by decide +kernel
theorem dX12_pass_187 : decode cX12_pass 187 = .ok (.iconst 3, 1) := by decide +kernel
theorem dX12_pass_188 : decode cX12_pass 188 = .ok (.iastore, 1) := by decide +kernel
theorem dX12_pass_189 : decode cX12_pass 189 = .ok (.aload_n 0, 1) := by decide +kernel
theorem dX12_pass_190 : decode cX12_pass 190 = .ok (.getfield 16, 3) := by decide +kernel
theorem dX12_pass_193 : decode cX12_pass 193 = .ok (.iload_n 2, 1) := by decide +kernel
theorem dX12_pass_194 : decode cX12_pass 194 = .ok (.iconst 0, 1) := by decide +kernel
theorem dX12_pass_195 : decode cX12_pass 195 = .ok (.iastore, 1) := by decide +kernel
theorem dX12_pass_196 : decode cX12_pass 196 = .ok (.aload_n 0, 1) := by decide +kernel
theorem dX12_pass_197 : decode cX12_pass 197 = .ok (.dup, 1) := by decide +kernel
theorem dX12_pass_198 : decode cX12_pass 198 = .ok (.getfield 57, 3) := by decide +kernel
theorem dX12_pass_201 : decode cX12_pass 201 = .ok (.iconst 1, 1) := by decide +kernel
theorem dX12_pass_202 : decode cX12_pass 202 = .ok (.iadd, 1) := by decide +kernel
theorem dX12_pass_203 : decode cX12_pass 203 = .ok (.putfield 57, 3) := by decide +kernel
theorem dX12_pass_206 : decode cX12_pass 206 = .ok (.iinc 2 1, 3) := by decide +kernel
theorem dX12_pass_209 : decode cX12_pass 209 = .ok (.goto (-98), 3) := by decide +kernel
theorem dX12_pass_212 : decode cX12_pass 212 = .ok (.bipush 14, 2) := by decide +kernel
theorem dX12_pass_214 : decode cX12_pass 214 = .ok (.newarray .boolean, 2) := by decide +kernel
theorem dX12_pass_216 : decode cX12_pass 216 = .ok (.astore_n 2, 1) := by decide +kernel
theorem dX12_pass_217 : decode cX12_pass 217 = .ok (.iconst 0, 1) := by decide +kernel
theorem dX12_pass_218 : decode cX12_pass 218 = .ok (.istore_n 3, 1) := by decide +kernel
theorem dX12_pass_219 : decode cX12_pass 219 = .ok (.iload_n 3, 1) := by decide +kernel
theorem dX12_pass_220 : decode cX12_pass 220 = .ok (.aload_n 0, 1) := by decide +kernel
theorem dX12_pass_221 : decode cX12_pass 221 = .ok (.getfield 36, 3) := by decide +kernel
theorem dX12_pass_224 : decode cX12_pass 224 = .ok (.if_icmp .ge 17, 3) := by decide +kernel
theorem dX12_pass_227 : decode cX12_pass 227 = .ok (.aload_n 2, 1) := by decide +kernel
theorem dX12_pass_228 : decode cX12_pass 228 = .ok (.iload_n 3, 1) := by decide +kernel
theorem dX12_pass_229 : decode cX12_pass 229 = .ok (.aload_n 0, 1) := by decide +kernel
theorem dX12_pass_230 : decode cX12_pass 230 = .ok (.iload_n 3, 1) := by decide +kernel
theorem dX12_pass_231 : decode cX12_pass 231 = .ok (.invokevirtual 103, 3) := by decide +kernel
theorem dX12_pass_234 : decode cX12_pass 234 = .ok (.bastore, 1) := by decide +kernel
theorem dX12_pass_235 : decode cX12_pass 235 = .ok (.iinc 3 1, 3) := by decide +kernel
theorem dX12_pass_238 : decode cX12_pass 238 = .ok (.goto (-19), 3) := by decide +kernel
theorem dX12_pass_241 : decode cX12_pass 241 = .ok (.aload_n 0, 1) := by decide +kernel
theorem dX12_pass_242 : decode cX12_pass 242 = .ok (.aload_n 2, 1) := by decide +kernel
theorem dX12_pass_243 : decode cX12_pass 243 = .ok (.invokevirtual 106, 3) := by decide +kernel
theorem dX12_pass_246 : decode cX12_pass 246 = .ok (.istore_n 3, 1) := by decide +kernel
theorem dX12_pass_247 : decode cX12_pass 247 = .ok (.iload_n 3, 1) := by decide +kernel
theorem dX12_pass_248 : decode cX12_pass 248 = .ok (.ifCond .lt 58, 3) := by decide +kernel
theorem dX12_pass_251 : decode cX12_pass 251 = .ok (.aload_n 2, 1) := by decide +kernel
theorem dX12_pass_252 : decode cX12_pass 252 = .ok (.iload_n 3, 1) := by decide +kernel
theorem dX12_pass_253 : decode cX12_pass 253 = .ok (.iconst 0, 1) := by decide +kernel
theorem dX12_pass_254 : decode cX12_pass 254 = .ok (.bastore, 1) := by decide +kernel
theorem dX12_pass_255 : decode cX12_pass 255 = .ok (.aload_n 0, 1) := by decide +kernel
theorem dX12_pass_256 : decode cX12_pass 256 = .ok (.iload_n 3, 1) := by decide +kernel
theorem dX12_pass_257 : decode cX12_pass 257 = .ok (.invokevirtual 110, 3) := by decide +kernel
theorem dX12_pass_260 : decode cX12_pass 260 = .ok (.ifCond .ne 6, 3) := by decide +kernel
theorem dX12_pass_263 : decode cX12_pass 263 = .ok (.goto 34, 3) := by decide +kernel
theorem dX12_pass_266 : decode cX12_pass 266 = .ok (.aload_n 0, 1) := by decide +kernel
theorem dX12_pass_267 : decode cX12_pass 267 = .ok (.getfield 7, 3) := by decide +kernel
theorem dX12_pass_270 : decode cX12_pass 270 = .ok (.iload_n 3, 1) := by decide +kernel
theorem dX12_pass_271 : decode cX12_pass 271 = .ok (.iconst 1, 1) := by decide +kernel
theorem dX12_pass_272 : decode cX12_pass 272 = .ok (.iastore, 1) := by decide +kernel
theorem dX12_pass_273 : decode cX12_pass 273 = .ok (.aload_n 0, 1) := by decide +kernel
theorem dX12_pass_274 : decode cX12_pass 274 = .ok (.getfield 13, 3) := by decide +kernel
theorem dX12_pass_277 : decode cX12_pass 277 = .ok (.iload_n 3, 1) := by decide +kernel
theorem dX12_pass_278 : decode cX12_pass 278 = .ok (.aload_n 0, 1) := by decide +kernel
theorem dX12_pass_279 : decode cX12_pass 279 = .ok (.getfield 22, 3) := by decide +kernel
theorem dX12_pass_282 : decode cX12_pass 282 = .ok (.iload_n 3, 1) := by decide +kernel
theorem dX12_pass_283 : decode cX12_pass 283 = .ok (.invokevirtual 76, 3) := by decide +kernel
theorem dX12_pass_286 : decode cX12_pass 286 = .ok (.iastore, 1) := by decide +kernel
theorem dX12_pass_287 : decode cX12_pass 287 = .ok (.aload_n 0, 1) := by decide +kernel
theorem dX12_pass_288 : decode cX12_pass 288 = .ok (.dup, 1) := by decide +kernel
theorem dX12_pass_289 : decode cX12_pass 289 = .ok (.getfield 47, 3) := by decide +kernel
theorem dX12_pass_292 : decode cX12_pass 292 = .ok (.iconst 1, 1) := by decide +kernel
theorem dX12_pass_293 : decode cX12_pass 293 = .ok (.iadd, 1) := by decide +kernel
theorem dX12_pass_294 : decode cX12_pass 294 = .ok (.putfield 47, 3) := by decide +kernel
theorem dX12_pass_297 : decode cX12_pass 297 = .ok (.aload_n 0, 1) := by decide +kernel
theorem dX12_pass_298 : decode cX12_pass 298 = .ok (.aload_n 2, 1) := by decide +kernel
theorem dX12_pass_299 : decode cX12_pass 299 = .ok (.invokevirtual 106, 3) := by decide +kernel
theorem dX12_pass_302 : decode cX12_pass 302 = .ok (.istore_n 3, 1) := by decide +kernel
theorem dX12_pass_303 : decode cX12_pass 303 = .ok (.goto (-56), 3) := by decide +kernel
theorem dX12_pass_306 : decode cX12_pass 306 = .ok (.aload_n 0, 1) := by decide +kernel
theorem dX12_pass_307 : decode cX12_pass 307 = .ok (.dup, 1) := by decide +kernel
theorem dX12_pass_308 : decode cX12_pass 308 = .ok (.getfield 42, 3) := by decide +kernel
theorem dX12_pass_311 : decode cX12_pass 311 = .ok (.iconst 1, 1) := by decide +kernel
theorem dX12_pass_312 : decode cX12_pass 312 = .ok (.iadd, 1) := by decide +kernel
theorem dX12_pass_313 : decode cX12_pass 313 = .ok (.putfield 42, 3) := by decide +kernel
theorem dX12_pass_316 : decode cX12_pass 316 = .ok (.return_, 1) := by decide +kernel
theorem dX12_next_0 : decode cX12_next 0 = .ok (.iconst (-1), 1) := by decide +kernel
theorem dX12_next_1 : decode cX12_next 1 = .ok (.istore_n 2, 1) := by decide +kernel
theorem dX12_next_2 : decode cX12_next 2 = .ok (.iconst 0, 1) := by decide +kernel
theorem dX12_next_3 : decode cX12_next 3 = .ok (.istore_n 3, 1) := by decide +kernel
theorem dX12_next_4 : decode cX12_next 4 = .ok (.iload_n 3, 1) := by decide +kernel
theorem dX12_next_5 : decode cX12_next 5 = .ok (.aload_n 0, 1) := by decide +kernel
theorem dX12_next_6 : decode cX12_next 6 = .ok (.getfield 36, 3) := by decide +kernel
theorem dX12_next_9 : decode cX12_next 9 = .ok (.if_icmp .ge 36, 3) := by decide +kernel
theorem dX12_next_12 : decode cX12_next 12 = .ok (.aload_n 1, 1) := by decide +kernel
theorem dX12_next_13 : decode cX12_next 13 = .ok (.iload_n 3, 1) := by decide +kernel
theorem dX12_next_14 : decode cX12_next 14 = .ok (.baload, 1) := by decide +kernel
theorem dX12_next_15 : decode cX12_next 15 = .ok (.ifCond .eq 24, 3) := by decide +kernel
theorem dX12_next_18 : decode cX12_next 18 = .ok (.iload_n 2, 1) := by decide +kernel
theorem dX12_next_19 : decode cX12_next 19 = .ok (.ifCond .lt 18, 3) := by decide +kernel
theorem dX12_next_22 : decode cX12_next 22 = .ok (.aload_n 0, 1) := by decide +kernel
theorem dX12_next_23 : decode cX12_next 23 = .ok (.getfield 19, 3) := by decide +kernel
theorem dX12_next_26 : decode cX12_next 26 = .ok (.iload_n 3, 1) := by decide +kernel
theorem dX12_next_27 : decode cX12_next 27 = .ok (.iaload, 1) := by decide +kernel
theorem dX12_next_28 : decode cX12_next 28 = .ok (.aload_n 0, 1) := by decide +kernel
theorem dX12_next_29 : decode cX12_next 29 = .ok (.getfield 19, 3) := by decide +kernel
theorem dX12_next_32 : decode cX12_next 32 = .ok (.iload_n 2, 1) := by decide +kernel
theorem dX12_next_33 : decode cX12_next 33 = .ok (.iaload, 1) := by decide +kernel
theorem dX12_next_34 : decode cX12_next 34 = .ok (.if_icmp .le 5, 3) := by decide +kernel
theorem dX12_next_37 : decode cX12_next 37 = .ok (.iload_n 3, 1) := by decide +kernel
theorem dX12_next_38 : decode cX12_next 38 = .ok (.istore_n 2, 1) := by decide +kernel
theorem dX12_next_39 : decode cX12_next 39 = .ok (.iinc 3 1, 3) := by decide +kernel
theorem dX12_next_42 : decode cX12_next 42 = .ok (.goto (-38), 3) := by decide +kernel
theorem dX12_next_45 : decode cX12_next 45 = .ok (.iload_n 2, 1) := by decide +kernel
theorem dX12_next_46 : decode cX12_next 46 = .ok (.ireturn, 1) := by decide +kernel
set_option maxRecDepth 20000 in
theorem ggX12_agrees_X11_minute : GoodIn wsX12_agrees wsX11_minute := goodIn_r _ [15, 16, 122, 123, 124, 125, 126, 127, 128, 129, 130, 131, 132, 133, 134, 135, 136, 137, 138, 139, 140, 141, 142, 143, 144, 145, 146, 147, 148, 149, 150, 151, 152] rfl (by decide +kernel)
set_option maxRecDepth 20000 in
theorem gX12_agrees_X11_minute : GoodIn wsX12_agrees (wsV RX12 39 RX11 yX11_minute wsX11_minute) := goodIn_app (goodIn_of _ (by decide +kernel)) ggX12_agrees_X11_minute
set_option maxRecDepth 20000 in
theorem ggX12_agrees_X11_starts : GoodIn wsX12_agrees wsX11_starts := goodIn_r _ [20, 16, 21, 22, 14, 23, 122, 123, 124, 125, 126, 127, 128, 129, 130, 131, 132, 133, 134, 135, 136, 137, 138, 139, 140, 141, 142, 143, 144, 145, 146, 147, 148, 149, 150, 151, 152, 153, 154, 155, 156, 157, 158, 159, 160, 161, 162, 163, 164, 165, 166, 167, 168, 169, 170, 171, 172] rfl (by decide +kernel)
set_option maxRecDepth 20000 in
theorem gX12_agrees_X11_starts : GoodIn wsX12_agrees (wsV RX12 44 RX11 yX11_starts wsX11_starts) := goodIn_app (goodIn_of _ (by decide +kernel)) ggX12_agrees_X11_starts
set_option maxRecDepth 20000 in
theorem ggX12_agrees_X11_completions : GoodIn wsX12_agrees wsX11_completions := goodIn_r _ [27, 16, 21, 22, 14, 23, 122, 123, 124, 125, 126, 127, 128, 129, 130, 131, 132, 133, 134, 135, 136, 137, 138, 139, 140, 141, 142, 143, 144, 145, 146, 147, 148, 149, 150, 151, 152, 153, 154, 155, 156, 157, 158, 159, 160, 161, 162, 163, 164, 165, 166, 167, 168, 169, 170, 171, 172] rfl (by decide +kernel)
set_option maxRecDepth 20000 in
theorem gX12_agrees_X11_completions : GoodIn wsX12_agrees (wsV RX12 49 RX11 yX11_completions wsX11_completions) := goodIn_app (goodIn_of _ (by decide +kernel)) ggX12_agrees_X11_completions
set_option maxRecDepth 20000 in
theorem ggX12_agrees_X11_burns : GoodIn wsX12_agrees wsX11_burns := goodIn_r _ [31, 16, 21, 22, 14, 23, 122, 123, 124, 125, 126, 127, 128, 129, 130, 131, 132, 133, 134, 135, 136, 137, 138, 139, 140, 141, 142, 143, 144, 145, 146, 147, 148, 149, 150, 151, 152, 153, 154, 155, 156, 157, 158, 159, 160, 161, 162, 163, 164, 165, 166, 167, 168, 169, 170, 171, 172] rfl (by decide +kernel)
set_option maxRecDepth 20000 in
theorem gX12_agrees_X11_burns : GoodIn wsX12_agrees (wsV RX12 54 RX11 yX11_burns wsX11_burns) := goodIn_app (goodIn_of _ (by decide +kernel)) ggX12_agrees_X11_burns
set_option maxRecDepth 20000 in
theorem ggX12_agrees_X11_cookMinutes : GoodIn wsX12_agrees wsX11_cookMinutes := goodIn_r _ [35, 16, 122, 123, 124, 125, 126, 127, 128, 129, 130, 131, 132, 133, 134, 135, 136, 137, 138, 139, 140, 141, 142, 143, 144, 145, 146, 147, 148, 149, 150, 151, 152] rfl (by decide +kernel)
set_option maxRecDepth 20000 in
theorem gX12_agrees_X11_cookMinutes : GoodIn wsX12_agrees (wsV RX12 59 RX11 yX11_cookMinutes wsX11_cookMinutes) := goodIn_app (goodIn_of _ (by decide +kernel)) ggX12_agrees_X11_cookMinutes
set_option maxRecDepth 20000 in
theorem ggX12_agrees_X11_salt : GoodIn wsX12_agrees wsX11_salt := goodIn_r _ [39, 16, 122, 123, 124, 125, 126, 127, 128, 129, 130, 131, 132, 133, 134, 135, 136, 137, 138, 139, 140, 141, 142, 143, 144, 145, 146, 147, 148, 149, 150, 151, 152] rfl (by decide +kernel)
set_option maxRecDepth 20000 in
theorem gX12_agrees_X11_salt : GoodIn wsX12_agrees (wsV RX12 113 RX11 yX11_salt wsX11_salt) := goodIn_app (goodIn_of _ (by decide +kernel)) ggX12_agrees_X11_salt
set_option maxRecDepth 20000 in
theorem ggX12_agrees_X11_status : GoodIn wsX12_agrees wsX11_status := goodIn_ca (goodIn_r _ [43, 16, 44, 45, 46, 14, 47, 48, 49, 50, 51, 52, 53, 54, 55, 56, 57, 58, 59, 60, 61, 62, 122, 123, 124, 125, 126, 127, 128, 129, 130, 131, 132, 133, 134, 135, 136, 137, 153, 154, 155, 156, 157, 158, 159, 160, 161, 162, 163, 164, 165, 166, 167, 168, 169, 170, 171, 172, 138, 139, 140, 141, 142, 143, 144, 145, 146, 147, 148, 149, 150, 151, 152] rfl (by decide +kernel)) (goodIn_sub (fun _ h => List.mem_cons_of_mem _ (List.mem_append_right _ h)) (by decide +kernel))
set_option maxRecDepth 20000 in
theorem gX12_agrees_X11_status : GoodIn wsX12_agrees (wsV RX12 64 RX11 yX11_status wsX11_status) := goodIn_app (goodIn_of _ (by decide +kernel)) ggX12_agrees_X11_status
set_option maxRecDepth 20000 in
theorem ggX12_agrees_X11_remaining : GoodIn wsX12_agrees wsX11_remaining := goodIn_ca (goodIn_r _ [66, 16, 44, 45, 46, 14, 47, 48, 49, 50, 51, 52, 122, 123, 124, 125, 126, 127, 128, 129, 130, 131, 132, 133, 134, 135, 136, 137, 138, 139, 140, 141, 142, 143, 144, 145, 146, 147, 148, 149, 150, 151, 152, 153, 154, 155, 156, 157, 158, 159, 160, 161, 162, 163, 164, 165, 166, 167, 168, 169, 170, 171, 172] rfl (by decide +kernel)) (goodIn_sub (fun _ h => List.mem_cons_of_mem _ (List.mem_append_right _ h)) (by decide +kernel))
set_option maxRecDepth 20000 in
theorem gX12_agrees_X11_remaining : GoodIn wsX12_agrees (wsV RX12 67 RX11 yX11_remaining wsX11_remaining) := goodIn_app (goodIn_of _ (by decide +kernel)) ggX12_agrees_X11_remaining
set_option maxRecDepth 20000 in
theorem ggX12_agrees_X11_age : GoodIn wsX12_agrees wsX11_age := goodIn_ca (goodIn_r _ [70, 16, 44, 45, 46, 14, 47, 48, 49, 50, 51, 52, 122, 123, 124, 125, 126, 127, 128, 129, 130, 131, 132, 133, 134, 135, 136, 137, 138, 139, 140, 141, 142, 143, 144, 145, 146, 147, 148, 149, 150, 151, 152, 153, 154, 155, 156, 157, 158, 159, 160, 161, 162, 163, 164, 165, 166, 167, 168, 169, 170, 171, 172] rfl (by decide +kernel)) (goodIn_sub (fun _ h => List.mem_cons_of_mem _ (List.mem_append_right _ h)) (by decide +kernel))
set_option maxRecDepth 20000 in
theorem gX12_agrees_X11_age : GoodIn wsX12_agrees (wsV RX12 70 RX11 yX11_age wsX11_age) := goodIn_app (goodIn_of _ (by decide +kernel)) ggX12_agrees_X11_age
set_option maxRecDepth 20000 in
theorem ggX12_agrees_X12_isReady : GoodIn wsX12_agrees wsX12_isReady := goodIn_ca (goodIn_r _ [75, 8, 1, 76, 77, 78, 14, 79, 16, 44, 45, 46, 47, 48, 49, 50, 51, 52, 110, 111, 112, 113, 114, 115, 116, 117, 118, 119, 120, 121, 122, 123, 124, 125, 126, 127, 128, 129, 130, 131, 132, 133, 134, 135, 136, 137, 153, 154, 155, 156, 157, 158, 159, 160, 161, 162, 163, 164, 165, 166, 167, 168, 169, 170, 171, 172] rfl (by decide +kernel)) (goodIn_sub (fun _ h => List.mem_cons_of_mem _ (List.mem_append_right _ h)) (by decide +kernel))
set_option maxRecDepth 20000 in
theorem gX12_agrees_X12_isReady : GoodIn wsX12_agrees (wsV RX12 103 RX12 yX12_isReady wsX12_isReady) := goodIn_app (goodIn_of _ (by decide +kernel)) ggX12_agrees_X12_isReady
set_option maxRecDepth 20000 in
theorem ggX12_agrees_X11_stepTaste : GoodIn wsX12_agrees wsX11_stepTaste := goodIn_ca (goodIn_r _ [83, 16, 44, 45, 46, 14, 47, 48, 49, 50, 51, 52, 122, 123, 124, 125, 126, 127, 128, 129, 130, 131, 132, 133, 134, 135, 136, 137, 153, 154, 155, 156, 157, 158, 159, 160, 161, 162, 163, 164, 165, 166, 167, 168, 169, 170, 171, 172] rfl (by decide +kernel)) (goodIn_sub (fun _ h => List.mem_cons_of_mem _ (List.mem_append_right _ h)) (by decide +kernel))
set_option maxRecDepth 20000 in
theorem gX12_agrees_X11_stepTaste : GoodIn wsX12_agrees (wsV RX12 116 RX11 yX11_stepTaste wsX11_stepTaste) := goodIn_app (goodIn_of _ (by decide +kernel)) ggX12_agrees_X11_stepTaste
set_option maxRecDepth 20000 in
theorem ggX12_agrees_X11_taste : GoodIn wsX12_agrees wsX11_taste := goodIn_r _ [87, 16, 88, 89, 90, 91, 92, 93, 94, 61, 14, 62, 122, 123, 124, 125, 126, 127, 128, 129, 130, 131, 132, 133, 134, 135, 136, 137, 138, 139, 140, 141, 142, 143, 144, 145, 146, 147, 148, 149, 150, 151, 152, 153, 154, 155, 156, 157, 158, 159, 160, 161, 162, 163, 164, 165, 166, 167, 168, 169, 170, 171, 172] rfl (by decide +kernel)
set_option maxRecDepth 20000 in
theorem gX12_agrees_X11_taste : GoodIn wsX12_agrees (wsV RX12 119 RX11 yX11_taste wsX11_taste) := goodIn_app (goodIn_of _ (by decide +kernel)) ggX12_agrees_X11_taste
set_option maxRecDepth 20000 in
theorem ggX12_agrees_X11_inconsistencies : GoodIn wsX12_agrees wsX11_inconsistencies := goodIn_r _ [98, 16, 21, 22, 14, 23, 99, 100, 101, 102, 103, 104, 105, 106, 107, 108, 91, 109, 94, 93, 61, 62, 122, 123, 124, 125, 126, 127, 128, 129, 130, 131, 132, 133, 134, 135, 136, 137, 153, 154, 155, 156, 157, 158, 159, 160, 161, 162, 163, 164, 165, 166, 167, 168, 169, 170, 171, 172, 138, 139, 140, 141, 142, 143, 144, 145, 146, 147, 148, 149, 150, 151, 152] rfl (by decide +kernel)
set_option maxRecDepth 20000 in
theorem gX12_agrees_X11_inconsistencies : GoodIn wsX12_agrees (wsV RX12 122 RX11 yX11_inconsistencies wsX11_inconsistencies) := goodIn_app (goodIn_of _ (by decide +kernel)) ggX12_agrees_X11_inconsistencies
theorem dX12_agrees_0 : decode cX12_agrees 0 = .ok (.aload_n 0, 1) := by decide +kernel
theorem dX12_agrees_1 : decode cX12_agrees 1 = .ok (.getfield 22, 3) := by decide +kernel
theorem dX12_agrees_4 : decode cX12_agrees 4 = .ok (.invokevirtual 39, 3) := by decide +kernel
theorem dX12_agrees_7 : decode cX12_agrees 7 = .ok (.aload_n 0, 1) := by decide +kernel
theorem dX12_agrees_8 : decode cX12_agrees 8 = .ok (.getfield 42, 3) := by decide +kernel
theorem dX12_agrees_11 : decode cX12_agrees 11 = .ok (.if_icmp .ne 59, 3) := by decide +kernel
theorem dX12_agrees_14 : decode cX12_agrees 14 = .ok (.aload_n 0, 1) := by decide +kernel
theorem dX12_agrees_15 : decode cX12_agrees 15 = .ok (.getfield 22, 3) := by decide +kernel
theorem dX12_agrees_18 : decode cX12_agrees 18 = .ok (.invokevirtual 44, 3) := by decide +kernel
theorem dX12_agrees_21 : decode cX12_agrees 21 = .ok (.aload_n 0, 1) := by decide +kernel
theorem dX12_agrees_22 : decode cX12_agrees 22 = .ok (.getfield 47, 3) := by decide +kernel
theorem dX12_agrees_25 : decode cX12_agrees 25 = .ok (.if_icmp .ne 45, 3) := by decide +kernel
theorem dX12_agrees_28 : decode cX12_agrees 28 = .ok (.aload_n 0, 1) := by decide +kernel
theorem dX12_agrees_29 : decode cX12_agrees 29 = .ok (.getfield 22, 3) := by decide +kernel
theorem dX12_agrees_32 : decode cX12_agrees 32 = .ok (.invokevirtual 49, 3) := by decide +kernel
theorem dX12_agrees_35 : decode cX12_agrees 35 = .ok (.aload_n 0, 1) := by decide +kernel
theorem dX12_agrees_36 : decode cX12_agrees 36 = .ok (.getfield 52, 3) := by decide +kernel
theorem dX12_agrees_39 : decode cX12_agrees 39 = .ok (.if_icmp .ne 31, 3) := by decide +kernel
theorem dX12_agrees_42 : decode cX12_agrees 42 = .ok (.aload_n 0, 1) := by decide +kernel
theorem dX12_agrees_43 : decode cX12_agrees 43 = .ok (.getfield 22, 3) := by decide +kernel
theorem dX12_agrees_46 : decode cX12_agrees 46 = .ok (.invokevirtual 54, 3) := by decide +kernel
theorem dX12_agrees_49 : decode cX12_agrees 49 = .ok (.aload_n 0, 1) := by decide +kernel
theorem dX12_agrees_50 : decode cX12_agrees 50 = .ok (.getfield 57, 3) := by decide +kernel
theorem dX12_agrees_53 : decode cX12_agrees 53 = .ok (.if_icmp .ne 17, 3) := by decide +kernel
theorem dX12_agrees_56 : decode cX12_agrees 56 = .ok (.aload_n 0, 1) := by decide +kernel
theorem dX12_agrees_57 : decode cX12_agrees 57 = .ok (.getfield 22, 3) := by decide +kernel
theorem dX12_agrees_60 : decode cX12_agrees 60 = .ok (.invokevirtual 59, 3) := by decide +kernel
theorem dX12_agrees_63 : decode cX12_agrees 63 = .ok (.aload_n 0, 1) := by decide +kernel
theorem dX12_agrees_64 : decode cX12_agrees 64 = .ok (.getfield 62, 3) := by decide +kernel
theorem dX12_agrees_67 : decode cX12_agrees 67 = .ok (.if_icmp .eq 5, 3) := by decide +kernel
theorem dX12_agrees_70 : decode cX12_agrees 70 = .ok (.iconst 0, 1) := by decide +kernel
theorem dX12_agrees_71 : decode cX12_agrees 71 = .ok (.ireturn, 1) := by decide +kernel
theorem dX12_agrees_72 : decode cX12_agrees 72 = .ok (.aload_n 0, 1) := by decide +kernel
theorem dX12_agrees_73 : decode cX12_agrees 73 = .ok (.getfield 22, 3) := by decide +kernel
theorem dX12_agrees_76 : decode cX12_agrees 76 = .ok (.invokevirtual 113, 3) := by decide +kernel
theorem dX12_agrees_79 : decode cX12_agrees 79 = .ok (.istore_n 1, 1) := by decide +kernel
theorem dX12_agrees_80 : decode cX12_agrees 80 = .ok (.iconst 0, 1) := by decide +kernel
theorem dX12_agrees_81 : decode cX12_agrees 81 = .ok (.istore_n 2, 1) := by decide +kernel
theorem dX12_agrees_82 : decode cX12_agrees 82 = .ok (.iload_n 2, 1) := by decide +kernel
theorem dX12_agrees_83 : decode cX12_agrees 83 = .ok (.aload_n 0, 1) := by decide +kernel
theorem dX12_agrees_84 : decode cX12_agrees 84 = .ok (.getfield 36, 3) := by decide +kernel
theorem dX12_agrees_87 : decode cX12_agrees 87 = .ok (.if_icmp .ge 121, 3) := by decide +kernel
theorem dX12_agrees_90 : decode cX12_agrees 90 = .ok (.aload_n 0, 1) := by decide +kernel
theorem dX12_agrees_91 : decode cX12_agrees 91 = .ok (.getfield 22, 3) := by decide +kernel
theorem dX12_agrees_94 : decode cX12_agrees 94 = .ok (.iload_n 2, 1) := by decide +kernel
theorem dX12_agrees_95 : decode cX12_agrees 95 = .ok (.invokevirtual 64, 3) := by decide +kernel
theorem dX12_agrees_98 : decode cX12_agrees 98 = .ok (.aload_n 0, 1) := by decide +kernel
theorem dX12_agrees_99 : decode cX12_agrees 99 = .ok (.getfield 7, 3) := by decide +kernel
theorem dX12_agrees_102 : decode cX12_agrees 102 = .ok (.iload_n 2, 1) := by decide +kernel
theorem dX12_agrees_103 : decode cX12_agrees 103 = .ok (.iaload, 1) := by decide +kernel
theorem dX12_agrees_104 : decode cX12_agrees 104 = .ok (.if_icmp .ne 51, 3) := by decide +kernel
theorem dX12_agrees_107 : decode cX12_agrees 107 = .ok (.aload_n 0, 1) := by decide +kernel
theorem dX12_agrees_108 : decode cX12_agrees 108 = .ok (.getfield 22, 3) := by decide +kernel
theorem dX12_agrees_111 : decode cX12_agrees 111 = .ok (.iload_n 2, 1) := by decide +kernel
theorem dX12_agrees_112 : decode cX12_agrees 112 = .ok (.invokevirtual 67, 3) := by decide +kernel
theorem dX12_agrees_115 : decode cX12_agrees 115 = .ok (.aload_n 0, 1) := by decide +kernel
theorem dX12_agrees_116 : decode cX12_agrees 116 = .ok (.getfield 7, 3) := by decide +kernel
theorem dX12_agrees_119 : decode cX12_agrees 119 = .ok (.iload_n 2, 1) := by decide +kernel
theorem dX12_agrees_120 : decode cX12_agrees 120 = .ok (.iaload, 1) := by decide +kernel
theorem dX12_agrees_121 : decode cX12_agrees 121 = .ok (.iconst 1, 1) := by decide +kernel
theorem dX12_agrees_122 : decode cX12_agrees 122 = .ok (.if_icmp .ne 12, 3) := by decide +kernel
theorem dX12_agrees_125 : decode cX12_agrees 125 = .ok (.aload_n 0, 1) := by decide +kernel
theorem dX12_agrees_126 : decode cX12_agrees 126 = .ok (.getfield 13, 3) := by decide +kernel
theorem dX12_agrees_129 : decode cX12_agrees 129 = .ok (.iload_n 2, 1) := by decide +kernel
theorem dX12_agrees_130 : decode cX12_agrees 130 = .ok (.iaload, 1) := by decide +kernel
theorem dX12_agrees_131 : decode cX12_agrees 131 = .ok (.goto 4, 3) := by decide +kernel
theorem dX12_agrees_134 : decode cX12_agrees 134 = .ok (.iconst 0, 1) := by decide +kernel
theorem dX12_agrees_135 : decode cX12_agrees 135 = .ok (.if_icmp .ne 20, 3) := by decide +kernel
theorem dX12_agrees_138 : decode cX12_agrees 138 = .ok (.aload_n 0, 1) := by decide +kernel
theorem dX12_agrees_139 : decode cX12_agrees 139 = .ok (.getfield 22, 3) := by decide +kernel
theorem dX12_agrees_142 : decode cX12_agrees 142 = .ok (.iload_n 2, 1) := by decide +kernel
theorem dX12_agrees_143 : decode cX12_agrees 143 = .ok (.invokevirtual 70, 3) := by decide +kernel
theorem dX12_agrees_146 : decode cX12_agrees 146 = .ok (.aload_n 0, 1) := by decide +kernel
theorem dX12_agrees_147 : decode cX12_agrees 147 = .ok (.getfield 16, 3) := by decide +kernel
theorem dX12_agrees_150 : decode cX12_agrees 150 = .ok (.iload_n 2, 1) := by decide +kernel
theorem dX12_agrees_151 : decode cX12_agrees 151 = .ok (.iaload, 1) := by decide +kernel
theorem dX12_agrees_152 : decode cX12_agrees 152 = .ok (.if_icmp .eq 5, 3) := by decide +kernel
theorem dX12_agrees_155 : decode cX12_agrees 155 = .ok (.iconst 0, 1) := by decide +kernel
theorem dX12_agrees_156 : decode cX12_agrees 156 = .ok (.ireturn, 1) := by decide +kernel
theorem dX12_agrees_157 : decode cX12_agrees 157 = .ok (.aload_n 0, 1) := by decide +kernel
theorem dX12_agrees_158 : decode cX12_agrees 158 = .ok (.getfield 7, 3) := by decide +kernel
theorem dX12_agrees_161 : decode cX12_agrees 161 = .ok (.iload_n 2, 1) := by decide +kernel
theorem dX12_agrees_162 : decode cX12_agrees 162 = .ok (.iaload, 1) := by decide +kernel
theorem dX12_agrees_163 : decode cX12_agrees 163 = .ok (.iconst 1, 1) := by decide +kernel
theorem dX12_agrees_164 : decode cX12_agrees 164 = .ok (.if_icmp .ne 13, 3) := by decide +kernel
theorem dX12_agrees_167 : decode cX12_agrees 167 = .ok (.aload_n 0, 1) := by decide +kernel
theorem dX12_agrees_168 : decode cX12_agrees 168 = .ok (.iload_n 2, 1) := by decide +kernel
theorem dX12_agrees_169 : decode cX12_agrees 169 = .ok (.invokevirtual 103, 3) := by decide +kernel
theorem dX12_agrees_172 : decode cX12_agrees 172 = .ok (.ifCond .eq 5, 3) := by decide +kernel
theorem dX12_agrees_175 : decode cX12_agrees 175 = .ok (.iconst 0, 1) := by decide +kernel
theorem dX12_agrees_176 : decode cX12_agrees 176 = .ok (.ireturn, 1) := by decide +kernel
theorem dX12_agrees_177 : decode cX12_agrees 177 = .ok (.iload_n 1, 1) := by decide +kernel
theorem dX12_agrees_178 : decode cX12_agrees 178 = .ok (.aload_n 0, 1) := by decide +kernel
theorem dX12_agrees_179 : decode cX12_agrees 179 = .ok (.getfield 7, 3) := by decide +kernel
theorem dX12_agrees_182 : decode cX12_agrees 182 = .ok (.iload_n 2, 1) := by decide +kernel
theorem dX12_agrees_183 : decode cX12_agrees 183 = .ok (.iaload, 1) := by decide +kernel
theorem dX12_agrees_184 : decode cX12_agrees 184 = .ok (.iconst 2, 1) := by decide +kernel
theorem dX12_agrees_185 : decode cX12_agrees 185 = .ok (.if_icmp .ne 14, 3) := by decide +kernel
theorem dX12_agrees_188 : decode cX12_agrees 188 = .ok (.aload_n 0, 1) := by decide +kernel
theorem dX12_agrees_189 : decode cX12_agrees 189 = .ok (.getfield 22, 3) := by decide +kernel
theorem dX12_agrees_192 : decode cX12_agrees 192 = .ok (.iload_n 2, 1) := by decide +kernel
theorem dX12_agrees_193 : decode cX12_agrees 193 = .ok (.invokevirtual 116, 3) := by decide +kernel
theorem dX12_agrees_196 : decode cX12_agrees 196 = .ok (.goto 4, 3) := by decide +kernel
theorem dX12_agrees_199 : decode cX12_agrees 199 = .ok (.iconst 0, 1) := by decide +kernel
theorem dX12_agrees_200 : decode cX12_agrees 200 = .ok (.iadd, 1) := by decide +kernel
theorem dX12_agrees_201 : decode cX12_agrees 201 = .ok (.istore_n 1, 1) := by decide +kernel
theorem dX12_agrees_202 : decode cX12_agrees 202 = .ok (.iinc 2 1, 3) := by decide +kernel
theorem dX12_agrees_205 : decode cX12_agrees 205 = .ok (.goto (-123), 3) := by decide +kernel
theorem dX12_agrees_208 : decode cX12_agrees 208 = .ok (.aload_n 0, 1) := by decide +kernel
theorem dX12_agrees_209 : decode cX12_agrees 209 = .ok (.getfield 22, 3) := by decide +kernel
theorem dX12_agrees_212 : decode cX12_agrees 212 = .ok (.invokevirtual 119, 3) := by decide +kernel
theorem dX12_agrees_215 : decode cX12_agrees 215 = .ok (.iload_n 1, 1) := by decide +kernel
theorem dX12_agrees_216 : decode cX12_agrees 216 = .ok (.if_icmp .ne 17, 3) := by decide +kernel
theorem dX12_agrees_219 : decode cX12_agrees 219 = .ok (.aload_n 0, 1) := by decide +kernel
theorem dX12_agrees_220 : decode cX12_agrees 220 = .ok (.getfield 22, 3) := by decide +kernel
theorem dX12_agrees_223 : decode cX12_agrees 223 = .ok (.invokevirtual 122, 3) := by decide +kernel
theorem dX12_agrees_226 : decode cX12_agrees 226 = .ok (.ifCond .ne 7, 3) := by decide +kernel
theorem dX12_agrees_229 : decode cX12_agrees 229 = .ok (.iconst 1, 1) := by decide +kernel
theorem dX12_agrees_230 : decode cX12_agrees 230 = .ok (.goto 4, 3) := by decide +kernel
theorem dX12_agrees_233 : decode cX12_agrees 233 = .ok (.iconst 0, 1) := by decide +kernel
theorem dX12_agrees_234 : decode cX12_agrees 234 = .ok (.ireturn, 1) := by decide +kernel
set_option maxRecDepth 20000 in
theorem ggJ5_init_a7421_J0_length_8abf5 : GoodIn wsJ5_init_a7421 wsJ0_length_8abf5 := goodIn_r _ [13, 14, 15, 16, 17, 12, 18, 19, 20, 161, 162, 163, 164] rfl (by decide +kernel)
set_option maxRecDepth 20000 in
theorem gJ5_init_a7421_J0_length_8abf5 : GoodIn wsJ5_init_a7421 (wsV RJ5 32 RJ0 yJ0_length_8abf5 wsJ0_length_8abf5) := goodIn_app (goodIn_of _ (by decide +kernel)) ggJ5_init_a7421_J0_length_8abf5
set_option maxRecDepth 20000 in
theorem ggJ5_init_a7421_J0_coder_7d493 : GoodIn wsJ5_init_a7421 wsJ0_coder_7d493 := goodIn_r _ [18, 19, 20, 161, 162, 163, 164] rfl (by decide +kernel)
set_option maxRecDepth 20000 in
theorem gJ5_init_a7421_J0_coder_7d493 : GoodIn wsJ5_init_a7421 (wsV RJ5 40 RJ0 yJ0_coder_7d493 wsJ0_coder_7d493) := goodIn_app (goodIn_of _ (by decide +kernel)) ggJ5_init_a7421_J0_coder_7d493
set_option maxRecDepth 20000 in
theorem ggJ5_init_a7421_J2_newBytesFor_77867 : GoodIn wsJ5_init_a7421 wsJ2_newBytesFor_77867 := goodIn_r _ [25, 7, 26, 27, 24, 28, 29] rfl (by decide +kernel)
set_option maxRecDepth 20000 in
theorem gJ5_init_a7421_J2_newBytesFor_77867 : GoodIn wsJ5_init_a7421 (va_wsS RJ5 26 yJ2_newBytesFor_77867 wsJ2_newBytesFor_77867) := goodIn_app (goodIn_of _ (by decide +kernel)) ggJ5_init_a7421_J2_newBytesFor_77867
set_option maxRecDepth 20000 in
theorem ggJ5_init_a7421_J4_append_cf1ce : GoodIn wsJ5_init_a7421 wsJ4_append_cf1ce := goodIn_r _ [36, 37, 38, 39, 35, 40, 41, 31, 42, 43, 44, 45, 46, 47, 48, 49, 50, 51, 8, 52, 53, 54, 55, 56, 6, 57, 58, 59, 60, 61, 5, 62, 63, 64, 65, 66, 67, 68, 69, 70, 71, 72, 73, 74, 75, 76, 77, 78, 79, 80, 81, 82, 83, 7, 84, 85, 86, 87, 88, 89, 90, 91, 92, 93, 94, 95, 96, 97, 98, 24, 99, 100, 101, 102, 103, 104, 105, 106, 107, 108, 12, 109, 110, 111, 112, 113, 114, 115, 116, 117, 118, 119, 9, 10, 11, 13, 14, 15, 16, 17, 18, 19, 20, 120, 121, 122, 123, 124, 125, 126, 127, 128, 129, 21, 130, 131, 132, 133, 134, 22, 23, 25, 26, 27, 28, 29, 135, 136, 137, 138, 139, 140, 141, 142, 143, 144, 145, 146, 147, 148, 149, 150, 151, 152, 153, 154, 155, 156, 157, 158, 159, 160, 161, 162, 163, 164] rfl (by decide +kernel)
set_option maxRecDepth 20000 in
theorem gJ5_init_a7421_J4_append_cf1ce_u43J4 : GoodIn wsJ5_init_a7421 (va_wsO RJ5 43 RJ4 "java/lang/AbstractStringBuilder" ⟨"java/lang/AbstractStringBuilder", "append", "(Ljava/lang/String;)Ljava/lang/AbstractStringBuilder;"⟩ yJ4_append_cf1ce wsJ4_append_cf1ce) := goodIn_app (goodIn_of _ (by decide +kernel)) ggJ5_init_a7421_J4_append_cf1ce
theorem dJ5_init_a7421_0 : decode cJ5_init_a7421 0 = .ok (.aload_n 0, 1) := by decide +kernel
theorem dJ5_init_a7421_1 : decode cJ5_init_a7421 1 = .ok (.invokespecial 3, 3) := by decide +kernel
theorem dJ5_init_a7421_4 : decode cJ5_init_a7421 4 = .ok (.aload_n 1, 1) := by decide +kernel
theorem dJ5_init_a7421_5 : decode cJ5_init_a7421 5 = .ok (.invokevirtual 32, 3) := by decide +kernel
theorem dJ5_init_a7421_8 : decode cJ5_init_a7421 8 = .ok (.istore_n 2, 1) := by decide +kernel
theorem dJ5_init_a7421_9 : decode cJ5_init_a7421 9 = .ok (.iload_n 2, 1) := by decide +kernel
theorem dJ5_init_a7421_10 : decode cJ5_init_a7421 10 = .ok (.ldc 38, 2) := by decide +kernel
theorem dJ5_init_a7421_12 : decode cJ5_init_a7421 12 = .ok (.if_icmp .ge 10, 3) := by decide +kernel
theorem dJ5_init_a7421_15 : decode cJ5_init_a7421 15 = .ok (.iload_n 2, 1) := by decide +kernel
theorem dJ5_init_a7421_16 : decode cJ5_init_a7421 16 = .ok (.bipush 16, 2) := by decide +kernel
theorem dJ5_init_a7421_18 : decode cJ5_init_a7421 18 = .ok (.iadd, 1) := by decide +kernel
theorem dJ5_init_a7421_19 : decode cJ5_init_a7421 19 = .ok (.goto 5, 3) := by decide +kernel
theorem dJ5_init_a7421_22 : decode cJ5_init_a7421 22 = .ok (.ldc 39, 2) := by decide +kernel
theorem dJ5_init_a7421_24 : decode cJ5_init_a7421 24 = .ok (.istore_n 3, 1) := by decide +kernel
theorem dJ5_init_a7421_25 : decode cJ5_init_a7421 25 = .ok (.aload_n 1, 1) := by decide +kernel
theorem dJ5_init_a7421_26 : decode cJ5_init_a7421 26 = .ok (.invokevirtual 40, 3) := by decide +kernel
theorem dJ5_init_a7421_29 : decode cJ5_init_a7421 29 = .ok (.istore 4, 2) := by decide +kernel
theorem dJ5_init_a7421_31 : decode cJ5_init_a7421 31 = .ok (.aload_n 0, 1) := by decide +kernel
theorem dJ5_init_a7421_32 : decode cJ5_init_a7421 32 = .ok (.iload 4, 2) := by decide +kernel
theorem dJ5_init_a7421_34 : decode cJ5_init_a7421 34 = .ok (.putfield 22, 3) := by decide +kernel
theorem dJ5_init_a7421_37 : decode cJ5_init_a7421 37 = .ok (.aload_n 0, 1) := by decide +kernel
theorem dJ5_init_a7421_38 : decode cJ5_init_a7421 38 = .ok (.iload 4, 2) := by decide +kernel
theorem dJ5_init_a7421_40 : decode cJ5_init_a7421 40 = .ok (.ifCond .ne 9, 3) := by decide +kernel
theorem dJ5_init_a7421_43 : decode cJ5_init_a7421 43 = .ok (.iload_n 3, 1) := by decide +kernel
theorem dJ5_init_a7421_44 : decode cJ5_init_a7421 44 = .ok (.newarray .byte, 2) := by decide +kernel
theorem dJ5_init_a7421_46 : decode cJ5_init_a7421 46 = .ok (.goto 7, 3) := by decide +kernel
theorem dJ5_init_a7421_49 : decode cJ5_init_a7421 49 = .ok (.iload_n 3, 1) := by decide +kernel
theorem dJ5_init_a7421_50 : decode cJ5_init_a7421 50 = .ok (.invokestatic 26, 3) := by decide +kernel
theorem dJ5_init_a7421_53 : decode cJ5_init_a7421 53 = .ok (.putfield 15, 3) := by decide +kernel
theorem dJ5_init_a7421_56 : decode cJ5_init_a7421 56 = .ok (.aload_n 0, 1) := by decide +kernel
theorem dJ5_init_a7421_57 : decode cJ5_init_a7421 57 = .ok (.aload_n 1, 1) := by decide +kernel
theorem dJ5_init_a7421_58 : decode cJ5_init_a7421 58 = .ok (.invokevirtual 43, 3) := by decide +kernel
theorem dJ5_init_a7421_61 : decode cJ5_init_a7421 61 = .ok (.pop, 1) := by decide +kernel
theorem dJ5_init_a7421_62 : decode cJ5_init_a7421 62 = .ok (.return_, 1) := by decide +kernel
theorem dJ5_length_8abf5_0 : decode cJ5_length_8abf5 0 = .ok (.aload_n 0, 1) := by decide +kernel
theorem dJ5_length_8abf5_1 : decode cJ5_length_8abf5 1 = .ok (.getfield 79, 3) := by decide +kernel
theorem dJ5_length_8abf5_4 : decode cJ5_length_8abf5 4 = .ok (.ireturn, 1) := by decide +kernel
set_option maxRecDepth 20000 in
theorem ggJ5_ensureCapacityInternal_d00df_J5_newCapacity_0f7a4 : GoodIn wsJ5_ensureCapacityInternal_d00df wsJ5_newCapacity_0f7a4 := goodIn_r _ [8, 1, 2, 9, 10, 11, 12, 13, 14, 15, 16, 17, 18, 19, 20, 21, 40, 41, 42, 43] rfl (by decide +kernel)
set_option maxRecDepth 20000 in
theorem gJ5_ensureCapacityInternal_d00df_J5_newCapacity_0f7a4_u104J4 : GoodIn wsJ5_ensureCapacityInternal_d00df (va_wsU RJ5 104 RJ4 "java/lang/AbstractStringBuilder" ⟨"java/lang/AbstractStringBuilder", "newCapacity", "(I)I"⟩ yJ5_newCapacity_0f7a4 wsJ5_newCapacity_0f7a4) := goodIn_app (goodIn_of _ (by decide +kernel)) ggJ5_ensureCapacityInternal_d00df_J5_newCapacity_0f7a4
set_option maxRecDepth 20000 in
theorem ggJ5_ensureCapacityInternal_d00df_J7_copyOf_9075b : GoodIn wsJ5_ensureCapacityInternal_d00df wsJ7_copyOf_9075b := goodIn_r _ [25, 26, 27, 28, 29, 30, 31, 32, 33, 34, 16, 35, 36, 37, 38, 39] rfl (by decide +kernel)
set_option maxRecDepth 20000 in
theorem gJ5_ensureCapacityInternal_d00df_J7_copyOf_9075b : GoodIn wsJ5_ensureCapacityInternal_d00df (va_wsS RJ5 108 yJ7_copyOf_9075b wsJ7_copyOf_9075b) := goodIn_app (goodIn_of _ (by decide +kernel)) ggJ5_ensureCapacityInternal_d00df_J7_copyOf_9075b
theorem dJ5_ensureCapacityInternal_d00df_0 : decode cJ5_ensureCapacityInternal_d00df 0 = .ok (.aload_n 0, 1) := by decide +kernel
theorem dJ5_ensureCapacityInternal_d00df_1 : decode cJ5_ensureCapacityInternal_d00df 1 = .ok (.getfield 15, 3) := by decide +kernel
theorem dJ5_ensureCapacityInternal_d00df_4 : decode cJ5_ensureCapacityInternal_d00df 4 = .ok (.arraylength, 1) := by decide +kernel
theorem dJ5_ensureCapacityInternal_d00df_5 : decode cJ5_ensureCapacityInternal_d00df 5 = .ok (.aload_n 0, 1) := by decide +kernel
theorem dJ5_ensureCapacityInternal_d00df_6 : decode cJ5_ensureCapacityInternal_d00df 6 = .ok (.getfield 22, 3) := by decide +kernel
theorem dJ5_ensureCapacityInternal_d00df_9 : decode cJ5_ensureCapacityInternal_d00df 9 = .ok (.ishr, 1) := by decide +kernel
theorem dJ5_ensureCapacityInternal_d00df_10 : decode cJ5_ensureCapacityInternal_d00df 10 = .ok (.istore_n 2, 1) := by decide +kernel
theorem dJ5_ensureCapacityInternal_d00df_11 : decode cJ5_ensureCapacityInternal_d00df 11 = .ok (.iload_n 1, 1) := by decide +kernel
theorem dJ5_ensureCapacityInternal_d00df_12 : decode cJ5_ensureCapacityInternal_d00df 12 = .ok (.iload_n 2, 1) := by decide +kernel
theorem dJ5_ensureCapacityInternal_d00df_13 : decode cJ5_ensureCapacityInternal_d00df 13 = .ok (.isub, 1) := by decide +kernel
theorem dJ5_ensureCapacityInternal_d00df_14 : decode cJ5_ensureCapacityInternal_d00df 14 = .ok (.ifCond .le 24, 3) := by decide +kernel
theorem dJ5_ensureCapacityInternal_d00df_17 : decode cJ5_ensureCapacityInternal_d00df 17 = .ok (.aload_n 0, 1) := by decide +kernel
theorem dJ5_ensureCapacityInternal_d00df_18 : decode cJ5_ensureCapacityInternal_d00df 18 = .ok (.aload_n 0, 1) := by decide +kernel
theorem dJ5_ensureCapacityInternal_d00df_19 : decode cJ5_ensureCapacityInternal_d00df 19 = .ok (.getfield 15, 3) := by decide +kernel
theorem dJ5_ensureCapacityInternal_d00df_22 : decode cJ5_ensureCapacityInternal_d00df 22 = .ok (.aload_n 0, 1) := by decide +kernel
theorem dJ5_ensureCapacityInternal_d00df_23 : decode cJ5_ensureCapacityInternal_d00df 23 = .ok (.iload_n 1, 1) := by decide +kernel
theorem dJ5_ensureCapacityInternal_d00df_24 : decode cJ5_ensureCapacityInternal_d00df 24 = .ok (.invokevirtual 104, 3) := by decide +kernel
theorem dJ5_ensureCapacityInternal_d00df_27 : decode cJ5_ensureCapacityInternal_d00df 27 = .ok (.aload_n 0, 1) := by decide +kernel
theorem dJ5_ensureCapacityInternal_d00df_28 : decode cJ5_ensureCapacityInternal_d00df 28 = .ok (.getfield 22, 3) := by decide +kernel
theorem dJ5_ensureCapacityInternal_d00df_31 : decode cJ5_ensureCapacityInternal_d00df 31 = .ok (.ishl, 1) := by decide +kernel
theorem dJ5_ensureCapacityInternal_d00df_32 : decode cJ5_ensureCapacityInternal_d00df 32 = .ok (.invokestatic 108, 3) := by decide +kernel
theorem dJ5_ensureCapacityInternal_d00df_35 : decode cJ5_ensureCapacityInternal_d00df 35 = .ok (.putfield 15, 3) := by decide +kernel
theorem dJ5_ensureCapacityInternal_d00df_38 : decode cJ5_ensureCapacityInternal_d00df 38 = .ok (.return_, 1) := by decide +kernel
set_option maxRecDepth 20000 in
theorem ggJ5_newCapacity_0f7a4_J8_newLength_cabcc : GoodIn wsJ5_newCapacity_0f7a4 wsJ8_newLength_cabcc := goodIn_r _ [7, 8, 9, 10, 11, 12, 13, 14, 6, 15] rfl (by decide +kernel)
set_option maxRecDepth 20000 in
theorem gJ5_newCapacity_0f7a4_J8_newLength_cabcc : GoodIn wsJ5_newCapacity_0f7a4 (va_wsS RJ5 114 yJ8_newLength_cabcc wsJ8_newLength_cabcc) := goodIn_app (goodIn_of _ (by decide +kernel)) ggJ5_newCapacity_0f7a4_J8_newLength_cabcc
theorem dJ5_newCapacity_0f7a4_0 : decode cJ5_newCapacity_0f7a4 0 = .ok (.aload_n 0, 1) := by decide +kernel
theorem dJ5_newCapacity_0f7a4_1 : decode cJ5_newCapacity_0f7a4 1 = .ok (.getfield 15, 3) := by decide +kernel
theorem dJ5_newCapacity_0f7a4_4 : decode cJ5_newCapacity_0f7a4 4 = .ok (.arraylength, 1) := by decide +kernel
theorem dJ5_newCapacity_0f7a4_5 : decode cJ5_newCapacity_0f7a4 5 = .ok (.istore_n 2, 1) := by decide +kernel
theorem dJ5_newCapacity_0f7a4_6 : decode cJ5_newCapacity_0f7a4 6 = .ok (.iload_n 1, 1) := by decide +kernel
theorem dJ5_newCapacity_0f7a4_7 : decode cJ5_newCapacity_0f7a4 7 = .ok (.aload_n 0, 1) := by decide +kernel
theorem dJ5_newCapacity_0f7a4_8 : decode cJ5_newCapacity_0f7a4 8 = .ok (.getfield 22, 3) := by decide +kernel
theorem dJ5_newCapacity_0f7a4_11 : decode cJ5_newCapacity_0f7a4 11 = .ok (.ishl, 1) := by decide +kernel
theorem dJ5_newCapacity_0f7a4_12 : decode cJ5_newCapacity_0f7a4 12 = .ok (.istore_n 3, 1) := by decide +kernel
theorem dJ5_newCapacity_0f7a4_13 : decode cJ5_newCapacity_0f7a4 13 = .ok (.iload_n 3, 1) := by decide +kernel
theorem dJ5_newCapacity_0f7a4_14 : decode cJ5_newCapacity_0f7a4 14 = .ok (.iload_n 2, 1) := by decide +kernel
theorem dJ5_newCapacity_0f7a4_15 : decode cJ5_newCapacity_0f7a4 15 = .ok (.isub, 1) := by decide +kernel
theorem dJ5_newCapacity_0f7a4_16 : decode cJ5_newCapacity_0f7a4 16 = .ok (.istore 4, 2) := by decide +kernel
theorem dJ5_newCapacity_0f7a4_18 : decode cJ5_newCapacity_0f7a4 18 = .ok (.iload_n 2, 1) := by decide +kernel
theorem dJ5_newCapacity_0f7a4_19 : decode cJ5_newCapacity_0f7a4 19 = .ok (.iload 4, 2) := by decide +kernel
theorem dJ5_newCapacity_0f7a4_21 : decode cJ5_newCapacity_0f7a4 21 = .ok (.iload_n 2, 1) := by decide +kernel
theorem dJ5_newCapacity_0f7a4_22 : decode cJ5_newCapacity_0f7a4 22 = .ok (.iconst 2, 1) := by decide +kernel
theorem dJ5_newCapacity_0f7a4_23 : decode cJ5_newCapacity_0f7a4 23 = .ok (.aload_n 0, 1) := by decide +kernel
theorem dJ5_newCapacity_0f7a4_24 : decode cJ5_newCapacity_0f7a4 24 = .ok (.getfield 22, 3) := by decide +kernel
theorem dJ5_newCapacity_0f7a4_27 : decode cJ5_newCapacity_0f7a4 27 = .ok (.ishl, 1) := by decide +kernel
theorem dJ5_newCapacity_0f7a4_28 : decode cJ5_newCapacity_0f7a4 28 = .ok (.iadd, 1) := by decide +kernel
theorem dJ5_newCapacity_0f7a4_29 : decode cJ5_newCapacity_0f7a4 29 = .ok (.invokestatic 114, 3) := by decide +kernel
theorem dJ5_newCapacity_0f7a4_32 : decode cJ5_newCapacity_0f7a4 32 = .ok (.istore 5, 2) := by decide +kernel
theorem dJ5_newCapacity_0f7a4_34 : decode cJ5_newCapacity_0f7a4 34 = .ok (.iload 5, 2) := by decide +kernel
theorem dJ5_newCapacity_0f7a4_36 : decode cJ5_newCapacity_0f7a4 36 = .ok (.ldc 39, 2) := by decide +kernel
theorem dJ5_newCapacity_0f7a4_38 : decode cJ5_newCapacity_0f7a4 38 = .ok (.if_icmp .ne 13, 3) := by decide +kernel
theorem dJ5_newCapacity_0f7a4_41 : decode cJ5_newCapacity_0f7a4 41 = .ok (.new 120, 3) := by decide +kernel
theorem dJ5_newCapacity_0f7a4_44 : decode cJ5_newCapacity_0f7a4 44 = .ok (.dup, 1) := by decide +kernel
theorem dJ5_newCapacity_0f7a4_45 : decode cJ5_newCapacity_0f7a4 45 = .ok (.ldc 122, 2) := by decide +kernel
theorem dJ5_newCapacity_0f7a4_47 : decode cJ5_newCapacity_0f7a4 47 = .ok (.invokespecial 124, 3) := by decide +kernel
theorem dJ5_newCapacity_0f7a4_50 : decode cJ5_newCapacity_0f7a4 50 = .ok (.athrow, 1) := by decide +kernel
theorem dJ5_newCapacity_0f7a4_51 : decode cJ5_newCapacity_0f7a4 51 = .ok (.iload 5, 2) := by decide +kernel
theorem dJ5_newCapacity_0f7a4_53 : decode cJ5_newCapacity_0f7a4 53 = .ok (.aload_n 0, 1) := by decide +kernel
theorem dJ5_newCapacity_0f7a4_54 : decode cJ5_newCapacity_0f7a4 54 = .ok (.getfield 22, 3) := by decide +kernel
theorem dJ5_newCapacity_0f7a4_57 : decode cJ5_newCapacity_0f7a4 57 = .ok (.ishr, 1) := by decide +kernel
theorem dJ5_newCapacity_0f7a4_58 : decode cJ5_newCapacity_0f7a4 58 = .ok (.ireturn, 1) := by decide +kernel
set_option maxRecDepth 20000 in
theorem ggJ5_inflate_da8c8_J5_isLatin1_aae02 : GoodIn wsJ5_inflate_da8c8 wsJ5_isLatin1_aae02 := goodIn_r _ [9, 10, 3, 48, 49, 50, 51] rfl (by decide +kernel)
set_option maxRecDepth 20000 in
theorem gJ5_inflate_da8c8_J5_isLatin1_aae02_u83J4 : GoodIn wsJ5_inflate_da8c8 (va_wsU RJ5 83 RJ4 "java/lang/AbstractStringBuilder" ⟨"java/lang/AbstractStringBuilder", "isLatin1", "()Z"⟩ yJ5_isLatin1_aae02 wsJ5_isLatin1_aae02) := goodIn_app (goodIn_of _ (by decide +kernel)) ggJ5_inflate_da8c8_J5_isLatin1_aae02
set_option maxRecDepth 20000 in
theorem ggJ5_inflate_da8c8_J2_newBytesFor_77867 : GoodIn wsJ5_inflate_da8c8 wsJ2_newBytesFor_77867 := goodIn_r _ [14, 15, 16, 17, 13, 18, 19] rfl (by decide +kernel)
set_option maxRecDepth 20000 in
theorem gJ5_inflate_da8c8_J2_newBytesFor_77867 : GoodIn wsJ5_inflate_da8c8 (va_wsS RJ5 26 yJ2_newBytesFor_77867 wsJ2_newBytesFor_77867) := goodIn_app (goodIn_of _ (by decide +kernel)) ggJ5_inflate_da8c8_J2_newBytesFor_77867
set_option maxRecDepth 20000 in
theorem ggJ5_inflate_da8c8_J1_inflate_0e8fd : GoodIn wsJ5_inflate_da8c8 wsJ1_inflate_0e8fd := goodIn_r _ [23, 24, 25, 13, 26, 27, 28, 29, 30, 31, 32, 33, 34, 35, 36, 37, 38, 39, 40, 41, 42, 43, 44, 45, 46, 47] rfl (by decide +kernel)
set_option maxRecDepth 20000 in
theorem gJ5_inflate_da8c8_J1_inflate_0e8fd : GoodIn wsJ5_inflate_da8c8 (va_wsS RJ5 125 yJ1_inflate_0e8fd wsJ1_inflate_0e8fd) := goodIn_app (goodIn_of _ (by decide +kernel)) ggJ5_inflate_da8c8_J1_inflate_0e8fd
theorem dJ5_inflate_da8c8_0 : decode cJ5_inflate_da8c8 0 = .ok (.aload_n 0, 1) := by decide +kernel
theorem dJ5_inflate_da8c8_1 : decode cJ5_inflate_da8c8 1 = .ok (.invokevirtual 83, 3) := by decide +kernel
theorem dJ5_inflate_da8c8_4 : decode cJ5_inflate_da8c8 4 = .ok (.ifCond .ne 4, 3) := by decide +kernel
theorem dJ5_inflate_da8c8_7 : decode cJ5_inflate_da8c8 7 = .ok (.return_, 1) := by decide +kernel
theorem dJ5_inflate_da8c8_8 : decode cJ5_inflate_da8c8 8 = .ok (.aload_n 0, 1) := by decide +kernel
theorem dJ5_inflate_da8c8_9 : decode cJ5_inflate_da8c8 9 = .ok (.getfield 15, 3) := by decide +kernel
theorem dJ5_inflate_da8c8_12 : decode cJ5_inflate_da8c8 12 = .ok (.arraylength, 1) := by decide +kernel
theorem dJ5_inflate_da8c8_13 : decode cJ5_inflate_da8c8 13 = .ok (.invokestatic 26, 3) := by decide +kernel
theorem dJ5_inflate_da8c8_16 : decode cJ5_inflate_da8c8 16 = .ok (.astore_n 1, 1) := by decide +kernel
theorem dJ5_inflate_da8c8_17 : decode cJ5_inflate_da8c8 17 = .ok (.aload_n 0, 1) := by decide +kernel
theorem dJ5_inflate_da8c8_18 : decode cJ5_inflate_da8c8 18 = .ok (.getfield 15, 3) := by decide +kernel
theorem dJ5_inflate_da8c8_21 : decode cJ5_inflate_da8c8 21 = .ok (.iconst 0, 1) := by decide +kernel
theorem dJ5_inflate_da8c8_22 : decode cJ5_inflate_da8c8 22 = .ok (.aload_n 1, 1) := by decide +kernel
theorem dJ5_inflate_da8c8_23 : decode cJ5_inflate_da8c8 23 = .ok (.iconst 0, 1) := by decide +kernel
theorem dJ5_inflate_da8c8_24 : decode cJ5_inflate_da8c8 24 = .ok (.aload_n 0, 1) := by decide +kernel
theorem dJ5_inflate_da8c8_25 : decode cJ5_inflate_da8c8 25 = .ok (.getfield 79, 3) := by decide +kernel
theorem dJ5_inflate_da8c8_28 : decode cJ5_inflate_da8c8 28 = .ok (.invokestatic 125, 3) := by decide +kernel
theorem dJ5_inflate_da8c8_31 : decode cJ5_inflate_da8c8 31 = .ok (.aload_n 0, 1) := by decide +kernel
theorem dJ5_inflate_da8c8_32 : decode cJ5_inflate_da8c8 32 = .ok (.aload_n 1, 1) := by decide +kernel
theorem dJ5_inflate_da8c8_33 : decode cJ5_inflate_da8c8 33 = .ok (.putfield 15, 3) := by decide +kernel
theorem dJ5_inflate_da8c8_36 : decode cJ5_inflate_da8c8 36 = .ok (.aload_n 0, 1) := by decide +kernel
theorem dJ5_inflate_da8c8_37 : decode cJ5_inflate_da8c8 37 = .ok (.iconst 1, 1) := by decide +kernel
theorem dJ5_inflate_da8c8_38 : decode cJ5_inflate_da8c8 38 = .ok (.putfield 22, 3) := by decide +kernel
theorem dJ5_inflate_da8c8_41 : decode cJ5_inflate_da8c8 41 = .ok (.return_, 1) := by decide +kernel
set_option maxRecDepth 20000 in
theorem ggJ5_append_cf1ce_J5_appendNull_278bc : GoodIn wsJ5_append_cf1ce wsJ5_appendNull_278bc := goodIn_r _ [7, 1, 8, 9, 10, 11, 12, 6, 13, 14, 15, 16, 17, 18, 19, 20, 21, 22, 23, 24, 25, 26, 27, 28, 29, 30, 31, 32, 33, 34, 35, 36, 37, 38, 39, 40, 41, 42, 43, 44, 45, 46, 47, 48, 49, 50, 51, 52, 53, 54, 55, 56, 57, 58, 59, 60, 61, 62, 63, 64, 65, 66, 67, 68, 69, 70, 71, 72, 73, 74, 75, 76, 77, 78, 79, 80, 81, 138, 139, 140, 141] rfl (by decide +kernel)
set_option maxRecDepth 20000 in
theorem gJ5_append_cf1ce_J5_appendNull_278bc_u204J4 : GoodIn wsJ5_append_cf1ce (va_wsU RJ5 204 RJ4 "java/lang/AbstractStringBuilder" ⟨"java/lang/AbstractStringBuilder", "appendNull", "()Ljava/lang/AbstractStringBuilder;"⟩ yJ5_appendNull_278bc wsJ5_appendNull_278bc) := goodIn_app (goodIn_of _ (by decide +kernel)) ggJ5_append_cf1ce_J5_appendNull_278bc
set_option maxRecDepth 20000 in
theorem ggJ5_append_cf1ce_J0_length_8abf5 : GoodIn wsJ5_append_cf1ce wsJ0_length_8abf5 := goodIn_r _ [85, 86, 87, 88, 89, 70, 90, 91, 92, 142, 143, 144, 145] rfl (by decide +kernel)
set_option maxRecDepth 20000 in
theorem gJ5_append_cf1ce_J0_length_8abf5 : GoodIn wsJ5_append_cf1ce (wsV RJ5 32 RJ0 yJ0_length_8abf5 wsJ0_length_8abf5) := goodIn_app (goodIn_of _ (by decide +kernel)) ggJ5_append_cf1ce_J0_length_8abf5
set_option maxRecDepth 20000 in
theorem ggJ5_append_cf1ce_J5_ensureCapacityInternal_d00df : GoodIn wsJ5_append_cf1ce wsJ5_ensureCapacityInternal_d00df := goodIn_r _ [13, 8, 14, 15, 16, 17, 18, 6, 19, 20, 21, 22, 23, 24, 25, 26, 27, 28, 29, 30, 31, 32, 33, 34, 35, 36, 37, 38, 39, 40, 41, 42, 43, 44, 45, 46, 47, 48, 49, 50, 138, 139, 140, 141] rfl (by decide +kernel)
set_option maxRecDepth 20000 in
theorem gJ5_append_cf1ce_J5_ensureCapacityInternal_d00df_u100J4 : GoodIn wsJ5_append_cf1ce (va_wsU RJ5 100 RJ4 "java/lang/AbstractStringBuilder" ⟨"java/lang/AbstractStringBuilder", "ensureCapacityInternal", "(I)V"⟩ yJ5_ensureCapacityInternal_d00df wsJ5_ensureCapacityInternal_d00df) := goodIn_app (goodIn_of _ (by decide +kernel)) ggJ5_append_cf1ce_J5_ensureCapacityInternal_d00df
set_option maxRecDepth 20000 in
theorem ggJ5_append_cf1ce_J5_putStringAt_47b60 : GoodIn wsJ5_append_cf1ce wsJ5_putStringAt_47b60 := goodIn_r _ [97, 8, 14, 98, 99, 100, 101, 6, 102, 56, 103, 88, 89, 70, 90, 91, 92, 104, 105, 106, 107, 108, 1, 51, 52, 53, 54, 55, 109, 110, 59, 111, 43, 112, 113, 114, 115, 116, 117, 118, 119, 120, 121, 122, 123, 124, 125, 65, 66, 67, 126, 127, 128, 72, 129, 130, 75, 131, 77, 78, 79, 61, 80, 81, 132, 133, 134, 135, 86, 136, 48, 49, 50, 87, 137, 138, 139, 140, 141, 142, 143, 144, 145] rfl (by decide +kernel)
set_option maxRecDepth 20000 in
theorem gJ5_append_cf1ce_J5_putStringAt_47b60_u208J4 : GoodIn wsJ5_append_cf1ce (va_wsU RJ5 208 RJ4 "java/lang/AbstractStringBuilder" ⟨"java/lang/AbstractStringBuilder", "putStringAt", "(ILjava/lang/String;)V"⟩ yJ5_putStringAt_47b60 wsJ5_putStringAt_47b60) := goodIn_app (goodIn_of _ (by decide +kernel)) ggJ5_append_cf1ce_J5_putStringAt_47b60
theorem dJ5_append_cf1ce_0 : decode cJ5_append_cf1ce 0 = .ok (.aload_n 1, 1) := by decide +kernel
theorem dJ5_append_cf1ce_1 : decode cJ5_append_cf1ce 1 = .ok (.ifnonnull 8, 3) := by decide +kernel
theorem dJ5_append_cf1ce_4 : decode cJ5_append_cf1ce 4 = .ok (.aload_n 0, 1) := by decide +kernel
theorem dJ5_append_cf1ce_5 : decode cJ5_append_cf1ce 5 = .ok (.invokevirtual 204, 3) := by decide +kernel
theorem dJ5_append_cf1ce_8 : decode cJ5_append_cf1ce 8 = .ok (.areturn, 1) := by decide +kernel
theorem dJ5_append_cf1ce_9 : decode cJ5_append_cf1ce 9 = .ok (.aload_n 1, 1) := by decide +kernel
theorem dJ5_append_cf1ce_10 : decode cJ5_append_cf1ce 10 = .ok (.invokevirtual 32, 3) := by decide +kernel
theorem dJ5_append_cf1ce_13 : decode cJ5_append_cf1ce 13 = .ok (.istore_n 2, 1) := by decide +kernel
theorem dJ5_append_cf1ce_14 : decode cJ5_append_cf1ce 14 = .ok (.aload_n 0, 1) := by decide +kernel
theorem dJ5_append_cf1ce_15 : decode cJ5_append_cf1ce 15 = .ok (.aload_n 0, 1) := by decide +kernel
theorem dJ5_append_cf1ce_16 : decode cJ5_append_cf1ce 16 = .ok (.getfield 79, 3) := by decide +kernel
theorem dJ5_append_cf1ce_19 : decode cJ5_append_cf1ce 19 = .ok (.iload_n 2, 1) := by decide +kernel
theorem dJ5_append_cf1ce_20 : decode cJ5_append_cf1ce 20 = .ok (.iadd, 1) := by decide +kernel
theorem dJ5_append_cf1ce_21 : decode cJ5_append_cf1ce 21 = .ok (.invokevirtual 100, 3) := by decide +kernel
theorem dJ5_append_cf1ce_24 : decode cJ5_append_cf1ce 24 = .ok (.aload_n 0, 1) := by decide +kernel
theorem dJ5_append_cf1ce_25 : decode cJ5_append_cf1ce 25 = .ok (.aload_n 0, 1) := by decide +kernel
theorem dJ5_append_cf1ce_26 : decode cJ5_append_cf1ce 26 = .ok (.getfield 79, 3) := by decide +kernel
theorem dJ5_append_cf1ce_29 : decode cJ5_append_cf1ce 29 = .ok (.aload_n 1, 1) := by decide +kernel
theorem dJ5_append_cf1ce_30 : decode cJ5_append_cf1ce 30 = .ok (.invokevirtual 208, 3) := by decide +kernel
theorem dJ5_append_cf1ce_33 : decode cJ5_append_cf1ce 33 = .ok (.aload_n 0, 1) := by decide +kernel
theorem dJ5_append_cf1ce_34 : decode cJ5_append_cf1ce 34 = .ok (.dup, 1) := by decide +kernel
theorem dJ5_append_cf1ce_35 : decode cJ5_append_cf1ce 35 = .ok (.getfield 79, 3) := by decide +kernel
theorem dJ5_append_cf1ce_38 : decode cJ5_append_cf1ce 38 = .ok (.iload_n 2, 1) := by decide +kernel
theorem dJ5_append_cf1ce_39 : decode cJ5_append_cf1ce 39 = .ok (.iadd, 1) := by decide +kernel
theorem dJ5_append_cf1ce_40 : decode cJ5_append_cf1ce 40 = .ok (.putfield 79, 3) := by decide +kernel
theorem dJ5_append_cf1ce_43 : decode cJ5_append_cf1ce 43 = .ok (.aload_n 0, 1) := by decide +kernel
theorem dJ5_append_cf1ce_44 : decode cJ5_append_cf1ce 44 = .ok (.areturn, 1) := by decide +kernel
set_option maxRecDepth 20000 in
theorem ggJ5_appendNull_278bc_J5_ensureCapacityInternal_d00df : GoodIn wsJ5_appendNull_278bc wsJ5_ensureCapacityInternal_d00df := goodIn_r _ [8, 2, 9, 10, 11, 12, 13, 7, 14, 15, 16, 17, 18, 19, 20, 21, 22, 23, 24, 25, 26, 27, 28, 29, 30, 31, 32, 33, 34, 35, 36, 37, 38, 39, 40, 41, 42, 43, 44, 45, 77, 78, 79, 80] rfl (by decide +kernel)
set_option maxRecDepth 20000 in
theorem gJ5_appendNull_278bc_J5_ensureCapacityInternal_d00df_u100J4 : GoodIn wsJ5_appendNull_278bc (va_wsU RJ5 100 RJ4 "java/lang/AbstractStringBuilder" ⟨"java/lang/AbstractStringBuilder", "ensureCapacityInternal", "(I)V"⟩ yJ5_ensureCapacityInternal_d00df wsJ5_ensureCapacityInternal_d00df) := goodIn_app (goodIn_of _ (by decide +kernel)) ggJ5_appendNull_278bc_J5_ensureCapacityInternal_d00df
set_option maxRecDepth 20000 in
theorem ggJ5_appendNull_278bc_J5_isLatin1_aae02 : GoodIn wsJ5_appendNull_278bc wsJ5_isLatin1_aae02 := goodIn_r _ [50, 51, 9, 77, 78, 79, 80] rfl (by decide +kernel)
set_option maxRecDepth 20000 in
theorem gJ5_appendNull_278bc_J5_isLatin1_aae02_u83J4 : GoodIn wsJ5_appendNull_278bc (va_wsU RJ5 83 RJ4 "java/lang/AbstractStringBuilder" ⟨"java/lang/AbstractStringBuilder", "isLatin1", "()Z"⟩ yJ5_isLatin1_aae02 wsJ5_isLatin1_aae02) := goodIn_app (goodIn_of _ (by decide +kernel)) ggJ5_appendNull_278bc_J5_isLatin1_aae02
set_option maxRecDepth 20000 in
theorem ggJ5_appendNull_278bc_J2_putCharsAt_cd4e5 : GoodIn wsJ5_appendNull_278bc wsJ2_putCharsAt_cd4e5 := goodIn_r _ [55, 56, 57, 58, 54, 59, 60, 61, 62, 63, 64, 65, 66, 67, 68, 69, 70, 71, 72, 73, 74, 75, 76] rfl (by decide +kernel)
set_option maxRecDepth 20000 in
theorem gJ5_appendNull_278bc_J2_putCharsAt_cd4e5 : GoodIn wsJ5_appendNull_278bc (va_wsS RJ5 226 yJ2_putCharsAt_cd4e5 wsJ2_putCharsAt_cd4e5) := goodIn_app (goodIn_of _ (by decide +kernel)) ggJ5_appendNull_278bc_J2_putCharsAt_cd4e5
theorem dJ5_appendNull_278bc_0 : decode cJ5_appendNull_278bc 0 = .ok (.aload_n 0, 1) := by decide +kernel
theorem dJ5_appendNull_278bc_1 : decode cJ5_appendNull_278bc 1 = .ok (.aload_n 0, 1) := by decide +kernel
theorem dJ5_appendNull_278bc_2 : decode cJ5_appendNull_278bc 2 = .ok (.getfield 79, 3) := by decide +kernel
theorem dJ5_appendNull_278bc_5 : decode cJ5_appendNull_278bc 5 = .ok (.iconst 4, 1) := by decide +kernel
theorem dJ5_appendNull_278bc_6 : decode cJ5_appendNull_278bc 6 = .ok (.iadd, 1) := by decide +kernel
theorem dJ5_appendNull_278bc_7 : decode cJ5_appendNull_278bc 7 = .ok (.invokevirtual 100, 3) := by decide +kernel
theorem dJ5_appendNull_278bc_10 : decode cJ5_appendNull_278bc 10 = .ok (.aload_n 0, 1) := by decide +kernel
theorem dJ5_appendNull_278bc_11 : decode cJ5_appendNull_278bc 11 = .ok (.getfield 79, 3) := by decide +kernel
theorem dJ5_appendNull_278bc_14 : decode cJ5_appendNull_278bc 14 = .ok (.istore_n 1, 1) := by decide +kernel
theorem dJ5_appendNull_278bc_15 : decode cJ5_appendNull_278bc 15 = .ok (.aload_n 0, 1) := by decide +kernel
theorem dJ5_appendNull_278bc_16 : decode cJ5_appendNull_278bc 16 = .ok (.getfield 15, 3) := by decide +kernel
theorem dJ5_appendNull_278bc_19 : decode cJ5_appendNull_278bc 19 = .ok (.astore_n 2, 1) := by decide +kernel
theorem dJ5_appendNull_278bc_20 : decode cJ5_appendNull_278bc 20 = .ok (.aload_n 0, 1) := by decide +kernel
theorem dJ5_appendNull_278bc_21 : decode cJ5_appendNull_278bc 21 = .ok (.invokevirtual 83, 3) := by decide +kernel
theorem dJ5_appendNull_278bc_24 : decode cJ5_appendNull_278bc 24 = .ok (.ifCond .eq 38, 3) := by decide +kernel
theorem dJ5_appendNull_278bc_27 : decode cJ5_appendNull_278bc 27 = .ok (.aload_n 2, 1) := by decide +kernel
theorem dJ5_appendNull_278bc_28 : decode cJ5_appendNull_278bc 28 = .ok (.iload_n 1, 1) := by decide +kernel
theorem dJ5_appendNull_278bc_29 : decode cJ5_appendNull_278bc 29 = .ok (.iinc 1 1, 3) := by decide +kernel
theorem dJ5_appendNull_278bc_32 : decode cJ5_appendNull_278bc 32 = .ok (.bipush 110, 2) := by decide +kernel
theorem dJ5_appendNull_278bc_34 : decode cJ5_appendNull_278bc 34 = .ok (.bastore, 1) := by decide +kernel
theorem dJ5_appendNull_278bc_35 : decode cJ5_appendNull_278bc 35 = .ok (.aload_n 2, 1) := by decide +kernel
theorem dJ5_appendNull_278bc_36 : decode cJ5_appendNull_278bc 36 = .ok (.iload_n 1, 1) := by decide +kernel
theorem dJ5_appendNull_278bc_37 : decode cJ5_appendNull_278bc 37 = .ok (.iinc 1 1, 3) := by decide +kernel
theorem dJ5_appendNull_278bc_40 : decode cJ5_appendNull_278bc 40 = .ok (.bipush 117, 2) := by decide +kernel
theorem dJ5_appendNull_278bc_42 : decode cJ5_appendNull_278bc 42 = .ok (.bastore, 1) := by decide +kernel
theorem dJ5_appendNull_278bc_43 : decode cJ5_appendNull_278bc 43 = .ok (.aload_n 2, 1) := by decide +kernel
theorem dJ5_appendNull_278bc_44 : decode cJ5_appendNull_278bc 44 = .ok (.iload_n 1, 1) := by decide +kernel
theorem dJ5_appendNull_278bc_45 : decode cJ5_appendNull_278bc 45 = .ok (.iinc 1 1, 3) := by decide +kernel
theorem dJ5_appendNull_278bc_48 : decode cJ5_appendNull_278bc 48 = .ok (.bipush 108, 2) := by decide +kernel
theorem dJ5_appendNull_278bc_50 : decode cJ5_appendNull_278bc 50 = .ok (.bastore, 1) := by decide +kernel
theorem dJ5_appendNull_278bc_51 : decode cJ5_appendNull_278bc 51 = .ok (.aload_n 2, 1) := by decide +kernel
theorem dJ5_appendNull_278bc_52 : decode cJ5_appendNull_278bc 52 = .ok (.iload_n 1, 1) := by decide +kernel
theorem dJ5_appendNull_278bc_53 : decode cJ5_appendNull_278bc 53 = .ok (.iinc 1 1, 3) := by decide +kernel
theorem dJ5_appendNull_278bc_56 : decode cJ5_appendNull_278bc 56 = .ok (.bipush 108, 2) := by decide +kernel
theorem dJ5_appendNull_278bc_58 : decode cJ5_appendNull_278bc 58 = .ok (.bastore, 1) := by decide +kernel
theorem dJ5_appendNull_278bc_59 : decode cJ5_appendNull_278bc 59 = .ok (.goto 17, 3) := by decide +kernel
theorem dJ5_appendNull_278bc_62 : decode cJ5_appendNull_278bc 62 = .ok (.aload_n 2, 1) := by decide +kernel
theorem dJ5_appendNull_278bc_63 : decode cJ5_appendNull_278bc 63 = .ok (.iload_n 1, 1) := by decide +kernel
theorem dJ5_appendNull_278bc_64 : decode cJ5_appendNull_278bc 64 = .ok (.bipush 110, 2) := by decide +kernel
theorem dJ5_appendNull_278bc_66 : decode cJ5_appendNull_278bc 66 = .ok (.bipush 117, 2) := by decide +kernel
theorem dJ5_appendNull_278bc_68 : decode cJ5_appendNull_278bc 68 = .ok (.bipush 108, 2) := by decide +kernel
theorem dJ5_appendNull_278bc_70 : decode cJ5_appendNull_278bc 70 = .ok (.bipush 108, 2) := by decide +kernel
theorem dJ5_appendNull_278bc_72 : decode cJ5_appendNull_278bc 72 = .ok (.invokestatic 226, 3) := by decide +kernel
theorem dJ5_appendNull_278bc_75 : decode cJ5_appendNull_278bc 75 = .ok (.istore_n 1, 1) := by decide +kernel
theorem dJ5_appendNull_278bc_76 : decode cJ5_appendNull_278bc 76 = .ok (.aload_n 0, 1) := by decide +kernel
theorem dJ5_appendNull_278bc_77 : decode cJ5_appendNull_278bc 77 = .ok (.iload_n 1, 1) := by decide +kernel
theorem dJ5_appendNull_278bc_78 : decode cJ5_appendNull_278bc 78 = .ok (.putfield 79, 3) := by decide +kernel
theorem dJ5_appendNull_278bc_81 : decode cJ5_appendNull_278bc 81 = .ok (.aload_n 0, 1) := by decide +kernel
theorem dJ5_appendNull_278bc_82 : decode cJ5_appendNull_278bc 82 = .ok (.areturn, 1) := by decide +kernel
set_option maxRecDepth 20000 in
theorem ggJ5_append_3fe6f_J5_ensureCapacityInternal_d00df : GoodIn wsJ5_append_3fe6f wsJ5_ensureCapacityInternal_d00df := goodIn_r _ [8, 2, 9, 10, 11, 12, 13, 7, 14, 15, 16, 17, 18, 19, 20, 21, 22, 23, 24, 25, 26, 27, 28, 29, 30, 31, 32, 33, 34, 35, 36, 37, 38, 39, 40, 41, 42, 43, 44, 45, 108, 109, 110, 111] rfl (by decide +kernel)
set_option maxRecDepth 20000 in
theorem gJ5_append_3fe6f_J5_ensureCapacityInternal_d00df_u100J4 : GoodIn wsJ5_append_3fe6f (va_wsU RJ5 100 RJ4 "java/lang/AbstractStringBuilder" ⟨"java/lang/AbstractStringBuilder", "ensureCapacityInternal", "(I)V"⟩ yJ5_ensureCapacityInternal_d00df wsJ5_ensureCapacityInternal_d00df) := goodIn_app (goodIn_of _ (by decide +kernel)) ggJ5_append_3fe6f_J5_ensureCapacityInternal_d00df
set_option maxRecDepth 20000 in
theorem ggJ5_append_3fe6f_J5_isLatin1_aae02 : GoodIn wsJ5_append_3fe6f wsJ5_isLatin1_aae02 := goodIn_r _ [50, 51, 9, 108, 109, 110, 111] rfl (by decide +kernel)
set_option maxRecDepth 20000 in
theorem gJ5_append_3fe6f_J5_isLatin1_aae02_u83J4 : GoodIn wsJ5_append_3fe6f (va_wsU RJ5 83 RJ4 "java/lang/AbstractStringBuilder" ⟨"java/lang/AbstractStringBuilder", "isLatin1", "()Z"⟩ yJ5_isLatin1_aae02 wsJ5_isLatin1_aae02) := goodIn_app (goodIn_of _ (by decide +kernel)) ggJ5_append_3fe6f_J5_isLatin1_aae02
set_option maxRecDepth 20000 in
theorem ggJ5_append_3fe6f_J1_canEncode_fc78d : GoodIn wsJ5_append_3fe6f wsJ1_canEncode_fc78d := goodIn_r _ [55] rfl (by decide +kernel)
set_option maxRecDepth 20000 in
theorem gJ5_append_3fe6f_J1_canEncode_fc78d : GoodIn wsJ5_append_3fe6f (va_wsS RJ5 191 yJ1_canEncode_fc78d wsJ1_canEncode_fc78d) := goodIn_app (goodIn_of _ (by decide +kernel)) ggJ5_append_3fe6f_J1_canEncode_fc78d
set_option maxRecDepth 20000 in
theorem ggJ5_append_3fe6f_J5_inflate_da8c8 : GoodIn wsJ5_append_3fe6f wsJ5_inflate_da8c8 := goodIn_r _ [60, 2, 1, 9, 46, 47, 48, 49, 7, 50, 51, 61, 62, 63, 64, 38, 65, 66, 67, 68, 69, 70, 54, 71, 72, 73, 74, 75, 76, 77, 78, 79, 80, 81, 82, 83, 84, 85, 86, 87, 88, 89, 90, 91, 92, 93, 94, 95, 108, 109, 110, 111] rfl (by decide +kernel)
set_option maxRecDepth 20000 in
theorem gJ5_append_3fe6f_J5_inflate_da8c8_u195J4 : GoodIn wsJ5_append_3fe6f (va_wsU RJ5 195 RJ4 "java/lang/AbstractStringBuilder" ⟨"java/lang/AbstractStringBuilder", "inflate", "()V"⟩ yJ5_inflate_da8c8 wsJ5_inflate_da8c8) := goodIn_app (goodIn_of _ (by decide +kernel)) ggJ5_append_3fe6f_J5_inflate_da8c8
set_option maxRecDepth 20000 in
theorem ggJ5_append_3fe6f_J2_putCharSB_b72d1 : GoodIn wsJ5_append_3fe6f wsJ2_putCharSB_b72d1 := goodIn_r _ [98, 99, 100, 63, 101, 78, 79, 80, 102, 103, 83, 104, 85, 105, 106, 88, 107, 90, 91, 92, 93, 94, 95] rfl (by decide +kernel)
set_option maxRecDepth 20000 in
theorem gJ5_append_3fe6f_J2_putCharSB_b72d1 : GoodIn wsJ5_append_3fe6f (va_wsS RJ5 197 yJ2_putCharSB_b72d1 wsJ2_putCharSB_b72d1) := goodIn_app (goodIn_of _ (by decide +kernel)) ggJ5_append_3fe6f_J2_putCharSB_b72d1
theorem dJ5_append_3fe6f_0 : decode cJ5_append_3fe6f 0 = .ok (.aload_n 0, 1) := by decide +kernel
theorem dJ5_append_3fe6f_1 : decode cJ5_append_3fe6f 1 = .ok (.aload_n 0, 1) := by decide +kernel
theorem dJ5_append_3fe6f_2 : decode cJ5_append_3fe6f 2 = .ok (.getfield 79, 3) := by decide +kernel
theorem dJ5_append_3fe6f_5 : decode cJ5_append_3fe6f 5 = .ok (.iconst 1, 1) := by decide +kernel
theorem dJ5_append_3fe6f_6 : decode cJ5_append_3fe6f 6 = .ok (.iadd, 1) := by decide +kernel
theorem dJ5_append_3fe6f_7 : decode cJ5_append_3fe6f 7 = .ok (.invokevirtual 100, 3) := by decide +kernel
theorem dJ5_append_3fe6f_10 : decode cJ5_append_3fe6f 10 = .ok (.aload_n 0, 1) := by decide +kernel
theorem dJ5_append_3fe6f_11 : decode cJ5_append_3fe6f 11 = .ok (.invokevirtual 83, 3) := by decide +kernel
theorem dJ5_append_3fe6f_14 : decode cJ5_append_3fe6f 14 = .ok (.ifCond .eq 31, 3) := by decide +kernel
theorem dJ5_append_3fe6f_17 : decode cJ5_append_3fe6f 17 = .ok (.iload_n 1, 1) := by decide +kernel
theorem dJ5_append_3fe6f_18 : decode cJ5_append_3fe6f 18 = .ok (.invokestatic 191, 3) := by decide +kernel
theorem dJ5_append_3fe6f_21 : decode cJ5_append_3fe6f 21 = .ok (.ifCond .eq 24, 3) := by decide +kernel
theorem dJ5_append_3fe6f_24 : decode cJ5_append_3fe6f 24 = .ok (.aload_n 0, 1) := by decide +kernel
theorem dJ5_append_3fe6f_25 : decode cJ5_append_3fe6f 25 = .ok (.getfield 15, 3) := by decide +kernel
theorem dJ5_append_3fe6f_28 : decode cJ5_append_3fe6f 28 = .ok (.aload_n 0, 1) := by decide +kernel
theorem dJ5_append_3fe6f_29 : decode cJ5_append_3fe6f 29 = .ok (.dup, 1) := by decide +kernel
theorem dJ5_append_3fe6f_30 : decode cJ5_append_3fe6f 30 = .ok (.getfield 79, 3) := by decide +kernel
theorem dJ5_append_3fe6f_33 : decode cJ5_append_3fe6f 33 = .ok (.dup_x1, 1) := by decide +kernel
theorem dJ5_append_3fe6f_34 : decode cJ5_append_3fe6f 34 = .ok (.iconst 1, 1) := by decide +kernel
theorem dJ5_append_3fe6f_35 : decode cJ5_append_3fe6f 35 = .ok (.iadd, 1) := by decide +kernel
theorem dJ5_append_3fe6f_36 : decode cJ5_append_3fe6f 36 = .ok (.putfield 79, 3) := by decide +kernel
theorem dJ5_append_3fe6f_39 : decode cJ5_append_3fe6f 39 = .ok (.iload_n 1, 1) := by decide +kernel
theorem dJ5_append_3fe6f_40 : decode cJ5_append_3fe6f 40 = .ok (.i2b, 1) := by decide +kernel
theorem dJ5_append_3fe6f_41 : decode cJ5_append_3fe6f 41 = .ok (.bastore, 1) := by decide +kernel
theorem dJ5_append_3fe6f_42 : decode cJ5_append_3fe6f 42 = .ok (.goto 33, 3) := by decide +kernel
theorem dJ5_append_3fe6f_45 : decode cJ5_append_3fe6f 45 = .ok (.aload_n 0, 1) := by decide +kernel
theorem dJ5_append_3fe6f_46 : decode cJ5_append_3fe6f 46 = .ok (.invokevirtual 83, 3) := by decide +kernel
theorem dJ5_append_3fe6f_49 : decode cJ5_append_3fe6f 49 = .ok (.ifCond .eq 7, 3) := by decide +kernel
theorem dJ5_append_3fe6f_52 : decode cJ5_append_3fe6f 52 = .ok (.aload_n 0, 1) := by decide +kernel
theorem dJ5_append_3fe6f_53 : decode cJ5_append_3fe6f 53 = .ok (.invokevirtual 195, 3) := by decide +kernel
theorem dJ5_append_3fe6f_56 : decode cJ5_append_3fe6f 56 = .ok (.aload_n 0, 1) := by decide +kernel
theorem dJ5_append_3fe6f_57 : decode cJ5_append_3fe6f 57 = .ok (.getfield 15, 3) := by decide +kernel
theorem dJ5_append_3fe6f_60 : decode cJ5_append_3fe6f 60 = .ok (.aload_n 0, 1) := by decide +kernel
theorem dJ5_append_3fe6f_61 : decode cJ5_append_3fe6f 61 = .ok (.dup, 1) := by decide +kernel
theorem dJ5_append_3fe6f_62 : decode cJ5_append_3fe6f 62 = .ok (.getfield 79, 3) := by decide +kernel
theorem dJ5_append_3fe6f_65 : decode cJ5_append_3fe6f 65 = .ok (.dup_x1, 1) := by decide +kernel
theorem dJ5_append_3fe6f_66 : decode cJ5_append_3fe6f 66 = .ok (.iconst 1, 1) := by decide +kernel
theorem dJ5_append_3fe6f_67 : decode cJ5_append_3fe6f 67 = .ok (.iadd, 1) := by decide +kernel
theorem dJ5_append_3fe6f_68 : decode cJ5_append_3fe6f 68 = .ok (.putfield 79, 3) := by decide +kernel
theorem dJ5_append_3fe6f_71 : decode cJ5_append_3fe6f 71 = .ok (.iload_n 1, 1) := by decide +kernel
theorem dJ5_append_3fe6f_72 : decode cJ5_append_3fe6f 72 = .ok (.invokestatic 197, 3) := by decide +kernel
theorem dJ5_append_3fe6f_75 : decode cJ5_append_3fe6f 75 = .ok (.aload_n 0, 1) := by decide +kernel
theorem dJ5_append_3fe6f_76 : decode cJ5_append_3fe6f 76 = .ok (.areturn, 1) := by decide +kernel
set_option maxRecDepth 20000 in
theorem ggJ5_append_c97b9_J6_stringSize_0f7a4 : GoodIn wsJ5_append_c97b9 wsJ6_stringSize_0f7a4 := goodIn_r _ [6] rfl (by decide +kernel)
set_option maxRecDepth 20000 in
theorem gJ5_append_c97b9_J6_stringSize_0f7a4 : GoodIn wsJ5_append_c97b9 (va_wsS RJ5 245 yJ6_stringSize_0f7a4 wsJ6_stringSize_0f7a4) := goodIn_app (goodIn_of _ (by decide +kernel)) ggJ5_append_c97b9_J6_stringSize_0f7a4
set_option maxRecDepth 20000 in
theorem ggJ5_append_c97b9_J5_ensureCapacityInternal_d00df : GoodIn wsJ5_append_c97b9 wsJ5_ensureCapacityInternal_d00df := goodIn_r _ [12, 2, 13, 14, 15, 16, 17, 11, 18, 19, 20, 21, 22, 23, 24, 25, 26, 27, 28, 29, 30, 31, 32, 33, 34, 35, 36, 37, 38, 39, 40, 41, 42, 43, 44, 45, 46, 47, 48, 49, 91, 92, 93, 94] rfl (by decide +kernel)
set_option maxRecDepth 20000 in
theorem gJ5_append_c97b9_J5_ensureCapacityInternal_d00df_u100J4 : GoodIn wsJ5_append_c97b9 (va_wsU RJ5 100 RJ4 "java/lang/AbstractStringBuilder" ⟨"java/lang/AbstractStringBuilder", "ensureCapacityInternal", "(I)V"⟩ yJ5_ensureCapacityInternal_d00df wsJ5_ensureCapacityInternal_d00df) := goodIn_app (goodIn_of _ (by decide +kernel)) ggJ5_append_c97b9_J5_ensureCapacityInternal_d00df
set_option maxRecDepth 20000 in
theorem ggJ5_append_c97b9_J5_isLatin1_aae02 : GoodIn wsJ5_append_c97b9 wsJ5_isLatin1_aae02 := goodIn_r _ [54, 55, 13, 91, 92, 93, 94] rfl (by decide +kernel)
set_option maxRecDepth 20000 in
theorem gJ5_append_c97b9_J5_isLatin1_aae02_u83J4 : GoodIn wsJ5_append_c97b9 (va_wsU RJ5 83 RJ4 "java/lang/AbstractStringBuilder" ⟨"java/lang/AbstractStringBuilder", "isLatin1", "()Z"⟩ yJ5_isLatin1_aae02 wsJ5_isLatin1_aae02) := goodIn_app (goodIn_of _ (by decide +kernel)) ggJ5_append_c97b9_J5_isLatin1_aae02
set_option maxRecDepth 20000 in
theorem ggJ5_append_c97b9_J6_getChars_ba4f3 : GoodIn wsJ5_append_c97b9 wsJ6_getChars_ba4f3 := goodIn_r _ [58, 59, 60] rfl (by decide +kernel)
set_option maxRecDepth 20000 in
theorem gJ5_append_c97b9_J6_getChars_ba4f3 : GoodIn wsJ5_append_c97b9 (va_wsS RJ5 248 yJ6_getChars_ba4f3 wsJ6_getChars_ba4f3) := goodIn_app (goodIn_of _ (by decide +kernel)) ggJ5_append_c97b9_J6_getChars_ba4f3
set_option maxRecDepth 20000 in
theorem ggJ5_append_c97b9_J2_getChars_46870 : GoodIn wsJ5_append_c97b9 wsJ2_getChars_46870 := goodIn_r _ [64, 65, 66, 67, 63, 68, 69, 70, 71, 72, 73, 74, 75, 76, 77, 78, 79, 80, 81, 82, 83, 84, 85, 86, 87, 88, 89, 90] rfl (by decide +kernel)
set_option maxRecDepth 20000 in
theorem gJ5_append_c97b9_J2_getChars_46870 : GoodIn wsJ5_append_c97b9 (va_wsS RJ5 251 yJ2_getChars_46870 wsJ2_getChars_46870) := goodIn_app (goodIn_of _ (by decide +kernel)) ggJ5_append_c97b9_J2_getChars_46870
theorem dJ5_append_c97b9_0 : decode cJ5_append_c97b9 0 = .ok (.aload_n 0, 1) := by decide +kernel
theorem dJ5_append_c97b9_1 : decode cJ5_append_c97b9 1 = .ok (.getfield 79, 3) := by decide +kernel
theorem dJ5_append_c97b9_4 : decode cJ5_append_c97b9 4 = .ok (.istore_n 2, 1) := by decide +kernel
theorem dJ5_append_c97b9_5 : decode cJ5_append_c97b9 5 = .ok (.iload_n 2, 1) := by decide +kernel
theorem dJ5_append_c97b9_6 : decode cJ5_append_c97b9 6 = .ok (.iload_n 1, 1) := by decide +kernel
theorem dJ5_append_c97b9_7 : decode cJ5_append_c97b9 7 = .ok (.invokestatic 245, 3) := by decide +kernel
theorem dJ5_append_c97b9_10 : decode cJ5_append_c97b9 10 = .ok (.iadd, 1) := by decide +kernel
theorem dJ5_append_c97b9_11 : decode cJ5_append_c97b9 11 = .ok (.istore_n 3, 1) := by decide +kernel
theorem dJ5_append_c97b9_12 : decode cJ5_append_c97b9 12 = .ok (.aload_n 0, 1) := by decide +kernel
theorem dJ5_append_c97b9_13 : decode cJ5_append_c97b9 13 = .ok (.iload_n 3, 1) := by decide +kernel
theorem dJ5_append_c97b9_14 : decode cJ5_append_c97b9 14 = .ok (.invokevirtual 100, 3) := by decide +kernel
theorem dJ5_append_c97b9_17 : decode cJ5_append_c97b9 17 = .ok (.aload_n 0, 1) := by decide +kernel
theorem dJ5_append_c97b9_18 : decode cJ5_append_c97b9 18 = .ok (.invokevirtual 83, 3) := by decide +kernel
theorem dJ5_append_c97b9_21 : decode cJ5_append_c97b9 21 = .ok (.ifCond .eq 16, 3) := by decide +kernel
theorem dJ5_append_c97b9_24 : decode cJ5_append_c97b9 24 = .ok (.iload_n 1, 1) := by decide +kernel
theorem dJ5_append_c97b9_25 : decode cJ5_append_c97b9 25 = .ok (.iload_n 3, 1) := by decide +kernel
theorem dJ5_append_c97b9_26 : decode cJ5_append_c97b9 26 = .ok (.aload_n 0, 1) := by decide +kernel
theorem dJ5_append_c97b9_27 : decode cJ5_append_c97b9 27 = .ok (.getfield 15, 3) := by decide +kernel
theorem dJ5_append_c97b9_30 : decode cJ5_append_c97b9 30 = .ok (.invokestatic 248, 3) := by decide +kernel
theorem dJ5_append_c97b9_33 : decode cJ5_append_c97b9 33 = .ok (.pop, 1) := by decide +kernel
theorem dJ5_append_c97b9_34 : decode cJ5_append_c97b9 34 = .ok (.goto 14, 3) := by decide +kernel
theorem dJ5_append_c97b9_37 : decode cJ5_append_c97b9 37 = .ok (.iload_n 1, 1) := by decide +kernel
theorem dJ5_append_c97b9_38 : decode cJ5_append_c97b9 38 = .ok (.iload_n 2, 1) := by decide +kernel
theorem dJ5_append_c97b9_39 : decode cJ5_append_c97b9 39 = .ok (.iload_n 3, 1) := by decide +kernel
theorem dJ5_append_c97b9_40 : decode cJ5_append_c97b9 40 = .ok (.aload_n 0, 1) := by decide +kernel
theorem dJ5_append_c97b9_41 : decode cJ5_append_c97b9 41 = .ok (.getfield 15, 3) := by decide +kernel
theorem dJ5_append_c97b9_44 : decode cJ5_append_c97b9 44 = .ok (.invokestatic 251, 3) := by decide +kernel
theorem dJ5_append_c97b9_47 : decode cJ5_append_c97b9 47 = .ok (.pop, 1) := by decide +kernel
theorem dJ5_append_c97b9_48 : decode cJ5_append_c97b9 48 = .ok (.aload_n 0, 1) := by decide +kernel
theorem dJ5_append_c97b9_49 : decode cJ5_append_c97b9 49 = .ok (.iload_n 3, 1) := by decide +kernel
theorem dJ5_append_c97b9_50 : decode cJ5_append_c97b9 50 = .ok (.putfield 79, 3) := by decide +kernel
theorem dJ5_append_c97b9_53 : decode cJ5_append_c97b9 53 = .ok (.aload_n 0, 1) := by decide +kernel
theorem dJ5_append_c97b9_54 : decode cJ5_append_c97b9 54 = .ok (.areturn, 1) := by decide +kernel
theorem dJ5_getValue_6d5f1_0 : decode cJ5_getValue_6d5f1 0 = .ok (.aload_n 0, 1) := by decide +kernel
theorem dJ5_getValue_6d5f1_1 : decode cJ5_getValue_6d5f1 1 = .ok (.getfield 15, 3) := by decide +kernel
theorem dJ5_getValue_6d5f1_4 : decode cJ5_getValue_6d5f1 4 = .ok (.areturn, 1) := by decide +kernel
theorem dJ5_isLatin1_aae02_0 : decode cJ5_isLatin1_aae02 0 = .ok (.getstatic 18, 3) := by decide +kernel
theorem dJ5_isLatin1_aae02_3 : decode cJ5_isLatin1_aae02 3 = .ok (.ifCond .eq 14, 3) := by decide +kernel
theorem dJ5_isLatin1_aae02_6 : decode cJ5_isLatin1_aae02 6 = .ok (.aload_n 0, 1) := by decide +kernel
theorem dJ5_isLatin1_aae02_7 : decode cJ5_isLatin1_aae02 7 = .ok (.getfield 22, 3) := by decide +kernel
theorem dJ5_isLatin1_aae02_10 : decode cJ5_isLatin1_aae02 10 = .ok (.ifCond .ne 7, 3) := by decide +kernel
theorem dJ5_isLatin1_aae02_13 : decode cJ5_isLatin1_aae02 13 = .ok (.iconst 1, 1) := by decide +kernel
theorem dJ5_isLatin1_aae02_14 : decode cJ5_isLatin1_aae02 14 = .ok (.goto 4, 3) := by decide +kernel
theorem dJ5_isLatin1_aae02_17 : decode cJ5_isLatin1_aae02 17 = .ok (.iconst 0, 1) := by decide +kernel
theorem dJ5_isLatin1_aae02_18 : decode cJ5_isLatin1_aae02 18 = .ok (.ireturn, 1) := by decide +kernel
set_option maxRecDepth 20000 in
theorem ggJ5_inflateIfNeededFor_a7421_J0_coder_7d493 : GoodIn wsJ5_inflateIfNeededFor_a7421 wsJ0_coder_7d493 := goodIn_r _ [7, 8, 9, 63, 64, 65, 66] rfl (by decide +kernel)
set_option maxRecDepth 20000 in
theorem gJ5_inflateIfNeededFor_a7421_J0_coder_7d493 : GoodIn wsJ5_inflateIfNeededFor_a7421 (wsV RJ5 40 RJ0 yJ0_coder_7d493 wsJ0_coder_7d493) := goodIn_app (goodIn_of _ (by decide +kernel)) ggJ5_inflateIfNeededFor_a7421_J0_coder_7d493
set_option maxRecDepth 20000 in
theorem ggJ5_inflateIfNeededFor_a7421_J5_inflate_da8c8 : GoodIn wsJ5_inflateIfNeededFor_a7421 wsJ5_inflate_da8c8 := goodIn_r _ [15, 16, 17, 2, 18, 19, 20, 21, 14, 22, 1, 23, 24, 25, 26, 27, 28, 29, 30, 31, 32, 33, 34, 35, 36, 37, 38, 39, 40, 41, 42, 43, 44, 45, 46, 6, 47, 48, 49, 50, 51, 52, 53, 54, 55, 56, 57, 58, 59, 60, 61, 62] rfl (by decide +kernel)
set_option maxRecDepth 20000 in
theorem gJ5_inflateIfNeededFor_a7421_J5_inflate_da8c8_u195J4 : GoodIn wsJ5_inflateIfNeededFor_a7421 (va_wsU RJ5 195 RJ4 "java/lang/AbstractStringBuilder" ⟨"java/lang/AbstractStringBuilder", "inflate", "()V"⟩ yJ5_inflate_da8c8 wsJ5_inflate_da8c8) := goodIn_app (goodIn_of _ (by decide +kernel)) ggJ5_inflateIfNeededFor_a7421_J5_inflate_da8c8
theorem dJ5_inflateIfNeededFor_a7421_0 : decode cJ5_inflateIfNeededFor_a7421 0 = .ok (.getstatic 18, 3) := by decide +kernel
theorem dJ5_inflateIfNeededFor_a7421_3 : decode cJ5_inflateIfNeededFor_a7421 3 = .ok (.ifCond .eq 18, 3) := by decide +kernel
theorem dJ5_inflateIfNeededFor_a7421_6 : decode cJ5_inflateIfNeededFor_a7421 6 = .ok (.aload_n 0, 1) := by decide +kernel
theorem dJ5_inflateIfNeededFor_a7421_7 : decode cJ5_inflateIfNeededFor_a7421 7 = .ok (.getfield 22, 3) := by decide +kernel
theorem dJ5_inflateIfNeededFor_a7421_10 : decode cJ5_inflateIfNeededFor_a7421 10 = .ok (.aload_n 1, 1) := by decide +kernel
theorem dJ5_inflateIfNeededFor_a7421_11 : decode cJ5_inflateIfNeededFor_a7421 11 = .ok (.invokevirtual 40, 3) := by decide +kernel
theorem dJ5_inflateIfNeededFor_a7421_14 : decode cJ5_inflateIfNeededFor_a7421 14 = .ok (.if_icmp .eq 7, 3) := by decide +kernel
theorem dJ5_inflateIfNeededFor_a7421_17 : decode cJ5_inflateIfNeededFor_a7421 17 = .ok (.aload_n 0, 1) := by decide +kernel
theorem dJ5_inflateIfNeededFor_a7421_18 : decode cJ5_inflateIfNeededFor_a7421 18 = .ok (.invokevirtual 195, 3) := by decide +kernel
theorem dJ5_inflateIfNeededFor_a7421_21 : decode cJ5_inflateIfNeededFor_a7421 21 = .ok (.return_, 1) := by decide +kernel
set_option maxRecDepth 20000 in
theorem ggJ5_putStringAt_47b60_J5_inflateIfNeededFor_a7421 : GoodIn wsJ5_putStringAt_47b60 wsJ5_inflateIfNeededFor_a7421 := goodIn_r _ [8, 9, 2, 10, 11, 12, 13, 14, 15, 16, 17, 18, 19, 20, 7, 21, 1, 22, 23, 24, 25, 26, 27, 28, 29, 30, 31, 32, 33, 34, 35, 36, 37, 38, 39, 40, 41, 42, 43, 44, 45, 46, 47, 48, 49, 50, 51, 52, 53, 54, 55, 56, 57, 58, 59, 60, 61, 62, 63, 75, 76, 77, 78, 79, 80, 81, 82] rfl (by decide +kernel)
set_option maxRecDepth 20000 in
theorem gJ5_putStringAt_47b60_J5_inflateIfNeededFor_a7421_u397J4 : GoodIn wsJ5_putStringAt_47b60 (va_wsU RJ5 397 RJ4 "java/lang/AbstractStringBuilder" ⟨"java/lang/AbstractStringBuilder", "inflateIfNeededFor", "(Ljava/lang/String;)V"⟩ yJ5_inflateIfNeededFor_a7421 wsJ5_inflateIfNeededFor_a7421) := goodIn_app (goodIn_of _ (by decide +kernel)) ggJ5_putStringAt_47b60_J5_inflateIfNeededFor_a7421
set_option maxRecDepth 20000 in
theorem ggJ5_putStringAt_47b60_J0_getBytes_840e7 : GoodIn wsJ5_putStringAt_47b60 wsJ0_getBytes_840e7 := goodIn_r _ [67, 68, 69, 70, 71, 72, 73, 11, 12, 13, 14, 15, 16, 74, 38, 39, 40, 41, 42, 30, 43, 44, 45, 46, 47, 48, 49, 50, 51, 52, 53, 54, 55, 56, 57, 58, 59, 60, 61, 62, 63, 79, 80, 81, 82] rfl (by decide +kernel)
set_option maxRecDepth 20000 in
theorem gJ5_putStringAt_47b60_J0_getBytes_840e7 : GoodIn wsJ5_putStringAt_47b60 (wsV RJ5 399 RJ0 yJ0_getBytes_840e7 wsJ0_getBytes_840e7) := goodIn_app (goodIn_of _ (by decide +kernel)) ggJ5_putStringAt_47b60_J0_getBytes_840e7
theorem dJ5_putStringAt_47b60_0 : decode cJ5_putStringAt_47b60 0 = .ok (.aload_n 0, 1) := by decide +kernel
theorem dJ5_putStringAt_47b60_1 : decode cJ5_putStringAt_47b60 1 = .ok (.aload_n 2, 1) := by decide +kernel
theorem dJ5_putStringAt_47b60_2 : decode cJ5_putStringAt_47b60 2 = .ok (.invokevirtual 397, 3) := by decide +kernel
theorem dJ5_putStringAt_47b60_5 : decode cJ5_putStringAt_47b60 5 = .ok (.aload_n 2, 1) := by decide +kernel
theorem dJ5_putStringAt_47b60_6 : decode cJ5_putStringAt_47b60 6 = .ok (.aload_n 0, 1) := by decide +kernel
theorem dJ5_putStringAt_47b60_7 : decode cJ5_putStringAt_47b60 7 = .ok (.getfield 15, 3) := by decide +kernel
theorem dJ5_putStringAt_47b60_10 : decode cJ5_putStringAt_47b60 10 = .ok (.iload_n 1, 1) := by decide +kernel
theorem dJ5_putStringAt_47b60_11 : decode cJ5_putStringAt_47b60 11 = .ok (.aload_n 0, 1) := by decide +kernel
theorem dJ5_putStringAt_47b60_12 : decode cJ5_putStringAt_47b60 12 = .ok (.getfield 22, 3) := by decide +kernel
theorem dJ5_putStringAt_47b60_15 : decode cJ5_putStringAt_47b60 15 = .ok (.invokevirtual 399, 3) := by decide +kernel
theorem dJ5_putStringAt_47b60_18 : decode cJ5_putStringAt_47b60 18 = .ok (.return_, 1) := by decide +kernel
theorem dJ6_getChars_ba4f3_0 : decode cJ6_getChars_ba4f3 0 = .ok (.iload_n 1, 1) := by decide +kernel
theorem dJ6_getChars_ba4f3_1 : decode cJ6_getChars_ba4f3 1 = .ok (.istore 5, 2) := by decide +kernel
theorem dJ6_getChars_ba4f3_3 : decode cJ6_getChars_ba4f3 3 = .ok (.iload_n 0, 1) := by decide +kernel
theorem dJ6_getChars_ba4f3_4 : decode cJ6_getChars_ba4f3 4 = .ok (.ifCond .ge 7, 3) := by decide +kernel
theorem dJ6_getChars_ba4f3_7 : decode cJ6_getChars_ba4f3 7 = .ok (.iconst 1, 1) := by decide +kernel
theorem dJ6_getChars_ba4f3_8 : decode cJ6_getChars_ba4f3 8 = .ok (.goto 4, 3) := by decide +kernel
theorem dJ6_getChars_ba4f3_11 : decode cJ6_getChars_ba4f3 11 = .ok (.iconst 0, 1) := by decide +kernel
theorem dJ6_getChars_ba4f3_12 : decode cJ6_getChars_ba4f3 12 = .ok (.istore 6, 2) := by decide +kernel
theorem dJ6_getChars_ba4f3_14 : decode cJ6_getChars_ba4f3 14 = .ok (.iload 6, 2) := by decide +kernel
theorem dJ6_getChars_ba4f3_16 : decode cJ6_getChars_ba4f3 16 = .ok (.ifCond .ne 6, 3) := by decide +kernel
theorem dJ6_getChars_ba4f3_19 : decode cJ6_getChars_ba4f3 19 = .ok (.iload_n 0, 1) := by decide +kernel
theorem dJ6_getChars_ba4f3_20 : decode cJ6_getChars_ba4f3 20 = .ok (.ineg, 1) := by decide +kernel
theorem dJ6_getChars_ba4f3_21 : decode cJ6_getChars_ba4f3 21 = .ok (.istore_n 0, 1) := by decide +kernel
theorem dJ6_getChars_ba4f3_22 : decode cJ6_getChars_ba4f3 22 = .ok (.iload_n 0, 1) := by decide +kernel
theorem dJ6_getChars_ba4f3_23 : decode cJ6_getChars_ba4f3 23 = .ok (.bipush (-100), 2) := by decide +kernel
theorem dJ6_getChars_ba4f3_25 : decode cJ6_getChars_ba4f3 25 = .ok (.if_icmp .gt 47, 3) := by decide +kernel
theorem dJ6_getChars_ba4f3_28 : decode cJ6_getChars_ba4f3 28 = .ok (.iload_n 0, 1) := by decide +kernel
theorem dJ6_getChars_ba4f3_29 : decode cJ6_getChars_ba4f3 29 = .ok (.bipush 100, 2) := by decide +kernel
theorem dJ6_getChars_ba4f3_31 : decode cJ6_getChars_ba4f3 31 = .ok (.idiv, 1) := by decide +kernel
theorem dJ6_getChars_ba4f3_32 : decode cJ6_getChars_ba4f3 32 = .ok (.istore_n 3, 1) := by decide +kernel
theorem dJ6_getChars_ba4f3_33 : decode cJ6_getChars_ba4f3 33 = .ok (.iload_n 3, 1) := by decide +kernel
theorem dJ6_getChars_ba4f3_34 : decode cJ6_getChars_ba4f3 34 = .ok (.bipush 100, 2) := by decide +kernel
theorem dJ6_getChars_ba4f3_36 : decode cJ6_getChars_ba4f3 36 = .ok (.imul, 1) := by decide +kernel
theorem dJ6_getChars_ba4f3_37 : decode cJ6_getChars_ba4f3 37 = .ok (.iload_n 0, 1) := by decide +kernel
theorem dJ6_getChars_ba4f3_38 : decode cJ6_getChars_ba4f3 38 = .ok (.isub, 1) := by decide +kernel
theorem dJ6_getChars_ba4f3_39 : decode cJ6_getChars_ba4f3 39 = .ok (.istore 4, 2) := by decide +kernel
theorem dJ6_getChars_ba4f3_41 : decode cJ6_getChars_ba4f3 41 = .ok (.iload_n 3, 1) := by decide +kernel
theorem dJ6_getChars_ba4f3_42 : decode cJ6_getChars_ba4f3 42 = .ok (.istore_n 0, 1) := by decide +kernel
theorem dJ6_getChars_ba4f3_43 : decode cJ6_getChars_ba4f3 43 = .ok (.aload_n 2, 1) := by decide +kernel
theorem dJ6_getChars_ba4f3_44 : decode cJ6_getChars_ba4f3 44 = .ok (.iinc 5 (-1), 3) := by decide +kernel
theorem dJ6_getChars_ba4f3_47 : decode cJ6_getChars_ba4f3 47 = .ok (.iload 5, 2) := by decide +kernel
theorem dJ6_getChars_ba4f3_49 : decode cJ6_getChars_ba4f3 49 = .ok (.getstatic 83, 3) := by decide +kernel
theorem dJ6_getChars_ba4f3_52 : decode cJ6_getChars_ba4f3 52 = .ok (.iload 4, 2) := by decide +kernel
theorem dJ6_getChars_ba4f3_54 : decode cJ6_getChars_ba4f3 54 = .ok (.baload, 1) := by decide +kernel
theorem dJ6_getChars_ba4f3_55 : decode cJ6_getChars_ba4f3 55 = .ok (.bastore, 1) := by decide +kernel
theorem dJ6_getChars_ba4f3_56 : decode cJ6_getChars_ba4f3 56 = .ok (.aload_n 2, 1) := by decide +kernel
theorem dJ6_getChars_ba4f3_57 : decode cJ6_getChars_ba4f3 57 = .ok (.iinc 5 (-1), 3) := by decide +kernel
theorem dJ6_getChars_ba4f3_60 : decode cJ6_getChars_ba4f3 60 = .ok (.iload 5, 2) := by decide +kernel
theorem dJ6_getChars_ba4f3_62 : decode cJ6_getChars_ba4f3 62 = .ok (.getstatic 87, 3) := by decide +kernel
theorem dJ6_getChars_ba4f3_65 : decode cJ6_getChars_ba4f3 65 = .ok (.iload 4, 2) := by decide +kernel
theorem dJ6_getChars_ba4f3_67 : decode cJ6_getChars_ba4f3 67 = .ok (.baload, 1) := by decide +kernel
theorem dJ6_getChars_ba4f3_68 : decode cJ6_getChars_ba4f3 68 = .ok (.bastore, 1) := by decide +kernel
theorem dJ6_getChars_ba4f3_69 : decode cJ6_getChars_ba4f3 69 = .ok (.goto (-47), 3) := by decide +kernel
theorem dJ6_getChars_ba4f3_72 : decode cJ6_getChars_ba4f3 72 = .ok (.aload_n 2, 1) := by decide +kernel
theorem dJ6_getChars_ba4f3_73 : decode cJ6_getChars_ba4f3 73 = .ok (.iinc 5 (-1), 3) := by decide +kernel
theorem dJ6_getChars_ba4f3_76 : decode cJ6_getChars_ba4f3 76 = .ok (.iload 5, 2) := by decide +kernel
theorem dJ6_getChars_ba4f3_78 : decode cJ6_getChars_ba4f3 78 = .ok (.getstatic 83, 3) := by decide +kernel
theorem dJ6_getChars_ba4f3_81 : decode cJ6_getChars_ba4f3 81 = .ok (.iload_n 0, 1) := by decide +kernel
theorem dJ6_getChars_ba4f3_82 : decode cJ6_getChars_ba4f3 82 = .ok (.ineg, 1) := by decide +kernel
theorem dJ6_getChars_ba4f3_83 : decode cJ6_getChars_ba4f3 83 = .ok (.baload, 1) := by decide +kernel
theorem dJ6_getChars_ba4f3_84 : decode cJ6_getChars_ba4f3 84 = .ok (.bastore, 1) := by decide +kernel
theorem dJ6_getChars_ba4f3_85 : decode cJ6_getChars_ba4f3 85 = .ok (.iload_n 0, 1) := by decide +kernel
theorem dJ6_getChars_ba4f3_86 : decode cJ6_getChars_ba4f3 86 = .ok (.bipush (-9), 2) := by decide +kernel
theorem dJ6_getChars_ba4f3_88 : decode cJ6_getChars_ba4f3 88 = .ok (.if_icmp .ge 16, 3) := by decide +kernel
theorem dJ6_getChars_ba4f3_91 : decode cJ6_getChars_ba4f3 91 = .ok (.aload_n 2, 1) := by decide +kernel
theorem dJ6_getChars_ba4f3_92 : decode cJ6_getChars_ba4f3 92 = .ok (.iinc 5 (-1), 3) := by decide +kernel
theorem dJ6_getChars_ba4f3_95 : decode cJ6_getChars_ba4f3 95 = .ok (.iload 5, 2) := by decide +kernel
theorem dJ6_getChars_ba4f3_97 : decode cJ6_getChars_ba4f3 97 = .ok (.getstatic 87, 3) := by decide +kernel
theorem dJ6_getChars_ba4f3_100 : decode cJ6_getChars_ba4f3 100 = .ok (.iload_n 0, 1) := by decide +kernel
theorem dJ6_getChars_ba4f3_101 : decode cJ6_getChars_ba4f3 101 = .ok (.ineg, 1) := by decide +kernel
theorem dJ6_getChars_ba4f3_102 : decode cJ6_getChars_ba4f3 102 = .ok (.baload, 1) := by decide +kernel
theorem dJ6_getChars_ba4f3_103 : decode cJ6_getChars_ba4f3 103 = .ok (.bastore, 1) := by decide +kernel
theorem dJ6_getChars_ba4f3_104 : decode cJ6_getChars_ba4f3 104 = .ok (.iload 6, 2) := by decide +kernel
theorem dJ6_getChars_ba4f3_106 : decode cJ6_getChars_ba4f3 106 = .ok (.ifCond .eq 12, 3) := by decide +kernel
theorem dJ6_getChars_ba4f3_109 : decode cJ6_getChars_ba4f3 109 = .ok (.aload_n 2, 1) := by decide +kernel
theorem dJ6_getChars_ba4f3_110 : decode cJ6_getChars_ba4f3 110 = .ok (.iinc 5 (-1), 3) := by decide +kernel
theorem dJ6_getChars_ba4f3_113 : decode cJ6_getChars_ba4f3 113 = .ok (.iload 5, 2) := by decide +kernel
theorem dJ6_getChars_ba4f3_115 : decode cJ6_getChars_ba4f3 115 = .ok (.bipush 45, 2) := by decide +kernel
theorem dJ6_getChars_ba4f3_117 : decode cJ6_getChars_ba4f3 117 = .ok (.bastore, 1) := by decide +kernel
theorem dJ6_getChars_ba4f3_118 : decode cJ6_getChars_ba4f3 118 = .ok (.iload 5, 2) := by decide +kernel
theorem dJ6_getChars_ba4f3_120 : decode cJ6_getChars_ba4f3 120 = .ok (.ireturn, 1) := by decide +kernel
theorem dJ6_stringSize_0f7a4_0 : decode cJ6_stringSize_0f7a4 0 = .ok (.iconst 1, 1) := by decide +kernel
theorem dJ6_stringSize_0f7a4_1 : decode cJ6_stringSize_0f7a4 1 = .ok (.istore_n 1, 1) := by decide +kernel
theorem dJ6_stringSize_0f7a4_2 : decode cJ6_stringSize_0f7a4 2 = .ok (.iload_n 0, 1) := by decide +kernel
theorem dJ6_stringSize_0f7a4_3 : decode cJ6_stringSize_0f7a4 3 = .ok (.ifCond .lt 8, 3) := by decide +kernel
theorem dJ6_stringSize_0f7a4_6 : decode cJ6_stringSize_0f7a4 6 = .ok (.iconst 0, 1) := by decide +kernel
