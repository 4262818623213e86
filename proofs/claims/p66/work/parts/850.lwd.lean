/-! PHASE 3: THE WORDS THAT THE LAW NEEDS, among the tables' -/
/-- private methods of AbstractStringBuilder, as StringBuilder selects them -/
def sb_six : List Cond := [Cond.selects RJ4 ⟨"java/lang/AbstractStringBuilder", "appendNull", "()Ljava/lang/AbstractStringBuilder;"⟩ yJ5_appendNull_278bc, Cond.selects RJ4 ⟨"java/lang/AbstractStringBuilder", "ensureCapacityInternal", "(I)V"⟩ yJ5_ensureCapacityInternal_d00df, Cond.selects RJ4 ⟨"java/lang/AbstractStringBuilder", "newCapacity", "(I)I"⟩ yJ5_newCapacity_0f7a4, Cond.selects RJ4 ⟨"java/lang/AbstractStringBuilder", "putStringAt", "(ILjava/lang/String;)V"⟩ yJ5_putStringAt_47b60, Cond.selects RJ4 ⟨"java/lang/AbstractStringBuilder", "inflateIfNeededFor", "(Ljava/lang/String;)V"⟩ yJ5_inflateIfNeededFor_a7421, Cond.selects RJ4 ⟨"java/lang/AbstractStringBuilder", "inflate", "()V"⟩ yJ5_inflate_da8c8]
def lw_tbl2 : List Cond := lw_tbl ++ sb_six
theorem sel_priv {C : String} {u z y : MethodName} {s : State} {args : Array Value} (hy : y.cls ≠ "java/lang/invoke/MethodHandle" ∧ y.cls ≠ "java/lang/invoke/VarHandle") (hzy : z.cls = y.cls) (hz : (Cond.selects C u z).before args s = true) (hpriv : (Cond.privateMethod y).before args s = true) (hinst : (Cond.instanceMethod y).before args s = true) : (Cond.selects C y y).before args s = true := by
  obtain ⟨mk, methM, hnamed, hmethM, -, -⟩ := Cond.instanceMethod_spec hinst
  have hfound : s.methodFound? y.cls y.name y.desc = some mk := State.methodFound?_of_named hnamed hy
  have h := hz
  simp only [Cond.before, Cond.holds, Cond.value] at h
  cases hc : s.vm.findClass C with
  | none => simp [hc] at h
  | some c =>
    cases hr : s.methodFound? u.cls u.name u.desc with
    | none => simp [hc, hr] at h
    | some r =>
      cases hm : s.methodNamed? z with
      | none => simp [hc, hr, hm] at h
      | some m =>
        have e1 : m.cls = mk.cls := by
          have a := findClass_of_methodNamed hm
          rw [hzy] at a
          exact Option.some.inj (a.symm.trans (findClass_of_methodNamed hnamed))
        have hsel : selectMethod {} s.vm c mk = .method mk := selectMethod_private hmethM (Cond.privateMethod_at hpriv mk methM hnamed hmethM)
        have hq : (s.vm.classes[mk.cls]?).any (fun k => !k.isInterface) = true := by
          cases hq : (s.vm.classes[mk.cls]?).any (fun k => !k.isInterface) with
          | true => rfl
          | false =>
            exfalso
            simp only [hc, hr, hm, e1] at h
            revert h
            generalize selectMethod {} s.vm c r = S
            cases S <;> simp [hq]
        simp only [Cond.before, Cond.holds, Cond.value, hc, hfound, hnamed, hsel, hq]
        simp
theorem six_ok {s : State} {args : Array Value} (hts : ∀ w ∈ lw_tbl, w.before args s = true) : ∀ w ∈ sb_six, w.before args s = true := by
  have hz := hts (Cond.selects RJ4 yJ5_isLatin1_aae02 yJ5_isLatin1_aae02) (by decide +kernel)
  unfold sb_six
  exact (List.forall_mem_cons.mpr ⟨sel_priv (z := yJ5_isLatin1_aae02) (y := yJ5_appendNull_278bc) ⟨by decide, by decide⟩ rfl hz (hts _ (by decide +kernel)) (hts _ (by decide +kernel)), (List.forall_mem_cons.mpr ⟨sel_priv (z := yJ5_isLatin1_aae02) (y := yJ5_ensureCapacityInternal_d00df) ⟨by decide, by decide⟩ rfl hz (hts _ (by decide +kernel)) (hts _ (by decide +kernel)), (List.forall_mem_cons.mpr ⟨sel_priv (z := yJ5_isLatin1_aae02) (y := yJ5_newCapacity_0f7a4) ⟨by decide, by decide⟩ rfl hz (hts _ (by decide +kernel)) (hts _ (by decide +kernel)), (List.forall_mem_cons.mpr ⟨sel_priv (z := yJ5_isLatin1_aae02) (y := yJ5_putStringAt_47b60) ⟨by decide, by decide⟩ rfl hz (hts _ (by decide +kernel)) (hts _ (by decide +kernel)), (List.forall_mem_cons.mpr ⟨sel_priv (z := yJ5_isLatin1_aae02) (y := yJ5_inflateIfNeededFor_a7421) ⟨by decide, by decide⟩ rfl hz (hts _ (by decide +kernel)) (hts _ (by decide +kernel)), (List.forall_mem_cons.mpr ⟨sel_priv (z := yJ5_isLatin1_aae02) (y := yJ5_inflate_da8c8) ⟨by decide, by decide⟩ rfl hz (hts _ (by decide +kernel)) (hts _ (by decide +kernel)), (fun _ h => nomatch h)⟩)⟩)⟩)⟩)⟩)⟩)
theorem lw2_ok {s : State} {args : Array Value} (hts : ∀ w ∈ lw_tbl, w.before args s = true) : ∀ w ∈ lw_tbl2, w.before args s = true := fun w h => (List.mem_append.mp h).elim (hts w) (six_ok hts w)
set_option maxRecDepth 20000 in
theorem wsN_r1 : ∀ w ∈ wsL_law0_r1, w ∈ lw_tbl2 := fun w h => (goodIn_r (big := lw_tbl2) wsL_law0_r1 [57, 58, 26, 816, 817, 55, 1344, 834, 837, 59, 60, 61, 62, 63, 64, 65, 66, 27, 83, 84, 28, 109, 110, 29] (by decide +kernel) (by decide +kernel) w h).1
set_option maxRecDepth 20000 in
theorem wsN_r2 : ∀ w ∈ wsL_law0_r2, w ∈ lw_tbl2 := fun w h => (goodIn_r (big := lw_tbl2) wsL_law0_r2 [119, 120, 30, 571, 572, 573, 574, 414, 415, 37, 575, 439, 440, 40, 576, 577, 549, 550, 43, 578, 569, 579, 446, 41] (by decide +kernel) (by decide +kernel) w h).1
set_option maxRecDepth 20000 in
theorem wsN_r3 : ∀ w ∈ wsL_law0_r3, w ∈ lw_tbl2 := fun w h => (goodIn_r (big := lw_tbl2) wsL_law0_r3 [605, 580, 581, 67, 68, 69, 70, 82, 71, 85, 86, 87, 88, 89, 95, 111, 112, 113, 114, 115, 122, 123, 124, 125] (by decide +kernel) (by decide +kernel) w h).1
set_option maxRecDepth 20000 in
theorem wsN_r4 : ∀ w ∈ wsL_law0_r4, w ∈ lw_tbl2 := fun w h => (goodIn_r (big := lw_tbl2) wsL_law0_r4 [126, 31, 158, 147, 161, 165, 168, 172, 175, 179, 148, 183, 185, 188, 191, 127, 128, 129, 130, 131, 133, 134, 237, 238] (by decide +kernel) (by decide +kernel) w h).1
set_option maxRecDepth 20000 in
theorem wsN_r5 : ∀ w ∈ wsL_law0_r5, w ∈ lw_tbl2 := fun w h => (goodIn_r (big := lw_tbl2) wsL_law0_r5 [239, 240, 241, 242, 243, 32, 244, 1264, 245, 246, 247, 248, 249, 1265, 251, 252, 253, 254, 255, 256, 257, 258, 259, 260] (by decide +kernel) (by decide +kernel) w h).1
set_option maxRecDepth 20000 in
theorem wsN_r6 : ∀ w ∈ wsL_law0_r6, w ∈ lw_tbl2 := fun w h => (goodIn_r (big := lw_tbl2) wsL_law0_r6 [33, 261, 262, 263, 264, 265, 267, 268, 34, 269, 270, 271, 35, 272, 273, 274, 275, 276, 277, 278, 279, 280, 281, 282] (by decide +kernel) (by decide +kernel) w h).1
set_option maxRecDepth 20000 in
theorem wsN_r7 : ∀ w ∈ wsL_law0_r7, w ∈ lw_tbl2 := fun w h => (goodIn_r (big := lw_tbl2) wsL_law0_r7 [283, 285, 287, 289, 290, 291, 292, 75, 293, 294, 295, 296, 297, 298, 299, 300, 193, 197, 301, 302, 36, 303, 304, 305] (by decide +kernel) (by decide +kernel) w h).1
set_option maxRecDepth 20000 in
theorem wsN_r8 : ∀ w ∈ wsL_law0_r8, w ∈ lw_tbl2 := fun w h => (goodIn_r (big := lw_tbl2) wsL_law0_r8 [306, 307, 93, 92, 308, 309, 310, 311, 91, 90, 312, 313, 314, 316, 317, 318, 320, 0, 321, 322, 324, 1, 325, 327] (by decide +kernel) (by decide +kernel) w h).1
set_option maxRecDepth 20000 in
theorem wsN_r9 : ∀ w ∈ wsL_law0_r9, w ∈ lw_tbl2 := fun w h => (goodIn_r (big := lw_tbl2) wsL_law0_r9 [328, 329, 330, 331, 332, 333, 334, 335, 336, 337, 338, 339, 340, 341, 342, 343, 344, 345, 346, 347, 348, 349, 351, 352] (by decide +kernel) (by decide +kernel) w h).1
set_option maxRecDepth 20000 in
theorem wsN_r10 : ∀ w ∈ wsL_law0_r10, w ∈ lw_tbl2 := fun w h => (goodIn_r (big := lw_tbl2) wsL_law0_r10 [354, 2, 355, 356, 357, 358, 359, 135, 360, 361, 362, 363, 364, 365, 366, 367, 368, 369, 371, 3, 372, 373, 374, 375] (by decide +kernel) (by decide +kernel) w h).1
set_option maxRecDepth 20000 in
theorem wsN_r11 : ∀ w ∈ wsL_law0_r11, w ∈ lw_tbl2 := fun w h => (goodIn_r (big := lw_tbl2) wsL_law0_r11 [376, 377, 378, 380, 4, 381, 383, 385, 5, 386, 388, 389, 390, 391, 395, 397, 6, 398, 399, 400, 401, 402, 404, 405] (by decide +kernel) (by decide +kernel) w h).1
set_option maxRecDepth 20000 in
theorem wsN_r12 : ∀ w ∈ wsL_law0_r12, w ∈ lw_tbl2 := fun w h => (goodIn_r (big := lw_tbl2) wsL_law0_r12 [406, 407, 408, 409, 410, 411, 412, 413, 416, 417, 418, 419, 420, 425, 426, 427, 424, 422, 441, 442, 443, 444, 445, 533] (by decide +kernel) (by decide +kernel) w h).1
set_option maxRecDepth 20000 in
theorem wsN_r13 : ∀ w ∈ wsL_law0_r13, w ∈ lw_tbl2 := fun w h => (goodIn_r (big := lw_tbl2) wsL_law0_r13 [535, 536, 537, 531, 448, 449, 450, 476, 479, 482, 485, 487, 490, 523, 524, 525, 526, 451, 454, 457, 460, 463, 465, 468] (by decide +kernel) (by decide +kernel) w h).1
set_option maxRecDepth 20000 in
theorem wsN_r14 : ∀ w ∈ wsL_law0_r14, w ∈ lw_tbl2 := fun w h => (goodIn_r (big := lw_tbl2) wsL_law0_r14 [471, 474, 527, 529, 528, 42, 530, 551, 552, 553, 554, 555, 558, 1007, 1008, 25, 1009, 1010, 1033, 1034, 1035, 1036, 1037, 45] (by decide +kernel) (by decide +kernel) w h).1
set_option maxRecDepth 20000 in
theorem wsN_r15 : ∀ w ∈ wsL_law0_r15, w ∈ lw_tbl2 := fun w h => (goodIn_r (big := lw_tbl2) wsL_law0_r15 [1210, 1039, 1040, 1041, 1042, 1043, 44, 1044, 1045, 1047, 1048, 1159, 1158, 1046, 1049, 1050, 1051, 1052, 1053, 1054, 1055, 1056, 1057, 1059] (by decide +kernel) (by decide +kernel) w h).1
set_option maxRecDepth 20000 in
theorem wsN_r16 : ∀ w ∈ wsL_law0_r16, w ∈ lw_tbl2 := fun w h => (goodIn_r (big := lw_tbl2) wsL_law0_r16 [1058, 1060, 1061, 1062, 1063, 1064, 1065, 1066, 1067, 1068, 1058, 1069, 1161, 1070, 1346, 1354, 1072, 1073, 1074, 1347, 1355, 1076, 1077, 1078] (by decide +kernel) (by decide +kernel) w h).1
set_option maxRecDepth 20000 in
theorem wsN_r17 : ∀ w ∈ wsL_law0_r17, w ∈ lw_tbl2 := fun w h => (goodIn_r (big := lw_tbl2) wsL_law0_r17 [1348, 1356, 1080, 1081, 1082, 1083, 46, 1084, 1085, 1086, 47, 1087, 1088, 1089, 1090, 1091, 1092, 1093, 1094, 1095, 1096, 1097, 1098, 1099] (by decide +kernel) (by decide +kernel) w h).1
set_option maxRecDepth 20000 in
theorem wsN_r18 : ∀ w ∈ wsL_law0_r18, w ∈ lw_tbl2 := fun w h => (goodIn_r (big := lw_tbl2) wsL_law0_r18 [1101, 1102, 748, 749, 1103, 1104, 1106, 1107, 1105, 1108, 1109, 1110, 1111, 1112, 1113, 1114, 1115, 1116, 1117, 1118, 1119, 1120, 1121, 1122] (by decide +kernel) (by decide +kernel) w h).1
set_option maxRecDepth 20000 in
theorem wsN_r19 : ∀ w ∈ wsL_law0_r19, w ∈ lw_tbl2 := fun w h => (goodIn_r (big := lw_tbl2) wsL_law0_r19 [1123, 1124, 1125, 1349, 1357, 1127, 1128, 1129, 1350, 1358, 1131, 1132, 1133, 1351, 1359, 1135, 1136, 1137, 1138, 1139, 1140, 1141, 1142, 1143] (by decide +kernel) (by decide +kernel) w h).1
set_option maxRecDepth 20000 in
theorem wsN_r20 : ∀ w ∈ wsL_law0_r20, w ∈ lw_tbl2 := fun w h => (goodIn_r (big := lw_tbl2) wsL_law0_r20 [1144, 1145, 1146, 1147, 1148, 1149, 1150, 1151, 1152, 1153, 1154, 1155, 1156, 1157, 1170, 1171, 1172, 1173, 1174, 1352, 1175, 1176, 1177, 1178] (by decide +kernel) (by decide +kernel) w h).1
set_option maxRecDepth 20000 in
theorem wsN_r21 : ∀ w ∈ wsL_law0_r21, w ∈ lw_tbl2 := fun w h => (goodIn_r (big := lw_tbl2) wsL_law0_r21 [49, 1179, 1180, 1181, 1182, 1183, 1185, 1187, 1188, 1189, 1190, 1191, 1192, 1193, 1194, 1195, 1196, 1197, 1198, 1199, 1353, 1200, 1201, 1202] (by decide +kernel) (by decide +kernel) w h).1
set_option maxRecDepth 20000 in
theorem wsN_r22 : ∀ w ∈ wsL_law0_r22, w ∈ lw_tbl2 := fun w h => (goodIn_r (big := lw_tbl2) wsL_law0_r22 [1203, 1204, 1205, 1206, 1207, 1209, 1218, 1219, 1220, 1221, 1222, 1223, 1224, 1225, 1226, 1227, 1228, 1229, 1230, 1160, 1231, 1233, 1234, 1232] (by decide +kernel) (by decide +kernel) w h).1
set_option maxRecDepth 20000 in
theorem wsN_r23 : ∀ w ∈ wsL_law0_r23, w ∈ lw_tbl2 := fun w h => (goodIn_r (big := lw_tbl2) wsL_law0_r23 [1235, 1236, 1238, 1237, 1239, 1240, 1241, 1242, 1237, 1243, 1244, 1245, 1246, 1247, 1248, 1249, 1250, 1251, 1252, 1253, 1254, 1255, 1256, 1257] (by decide +kernel) (by decide +kernel) w h).1
set_option maxRecDepth 20000 in
theorem wsN_r24 : ∀ w ∈ wsL_law0_r24, w ∈ lw_tbl2 := fun w h => (goodIn_r (big := lw_tbl2) wsL_law0_r24 [1258, 1259, 1260, 1261, 1262, 1263, 1011, 1012, 1013, 1014, 1015, 1016, 1017, 614, 53, 717, 1019, 1020, 1021, 1022, 1023, 1024, 1025, 1026] (by decide +kernel) (by decide +kernel) w h).1
set_option maxRecDepth 20000 in
theorem wsN_r25 : ∀ w ∈ wsL_law0_r25, w ∈ lw_tbl2 := fun w h => (goodIn_r (big := lw_tbl2) wsL_law0_r25 [1027, 723, 54, 1029, 1030, 1031, 1032, 606, 607, 608, 609, 610, 612, 7, 613, 681, 682, 683, 684, 818, 819, 820, 821, 829] (by decide +kernel) (by decide +kernel) w h).1
set_option maxRecDepth 20000 in
theorem wsN_r26 : ∀ w ∈ wsL_law0_r26, w ∈ lw_tbl2 := fun w h => (goodIn_r (big := lw_tbl2) wsL_law0_r26 [830, 831, 832, 826, 828, 827, 822, 823, 824, 825, 1275, 1276, 1277, 1278, 1279, 887, 888, 889, 890, 892, 19, 893, 894, 56] (by decide +kernel) (by decide +kernel) w h).1
set_option maxRecDepth 20000 in
theorem wsN_r27 : ∀ w ∈ wsL_law0_r27, w ∈ lw_tbl2 := fun w h => (goodIn_r (big := lw_tbl2) wsL_law0_r27 [910, 911, 912, 913, 1280, 1281, 1282, 1283, 943, 739, 740, 741, 742, 559, 560, 747, 743, 744, 745, 746, 1285, 1286, 1287, 1288] (by decide +kernel) (by decide +kernel) w h).1
set_option maxRecDepth 20000 in
theorem wsN_r28 : ∀ w ∈ wsL_law0_r28, w ∈ lw_tbl2 := fun w h => (goodIn_r (big := lw_tbl2) wsL_law0_r28 [1289, 1290, 1291, 1292, 1293, 785, 786, 787, 692, 693, 694, 695, 696, 697, 698, 699, 700, 701, 702, 703, 704, 705, 706, 707] (by decide +kernel) (by decide +kernel) w h).1
set_option maxRecDepth 20000 in
theorem wsN_r29 : ∀ w ∈ wsL_law0_r29, w ∈ lw_tbl2 := fun w h => (goodIn_r (big := lw_tbl2) wsL_law0_r29 [1294, 1295, 1296, 1297, 1298, 1299, 1300, 1301, 784, 1303, 1304, 1305, 1306, 1307, 1308, 1309, 1310, 1311, 1313, 21, 1314, 1315, 1317, 22] (by decide +kernel) (by decide +kernel) w h).1
set_option maxRecDepth 20000 in
theorem wsN_r30 : ∀ w ∈ wsL_law0_r30, w ∈ lw_tbl2 := fun w h => (goodIn_r (big := lw_tbl2) wsL_law0_r30 [1318, 1320, 1321, 1322, 1323, 1324, 1326, 23, 1327, 1329, 1330, 1331, 1332, 1333, 1335, 24, 1336, 997, 1339, 1340, 1341, 1342, 865, 866] (by decide +kernel) (by decide +kernel) w h).1
set_option maxRecDepth 20000 in
theorem wsN_r31 : ∀ w ∈ wsL_law0_r31, w ∈ lw_tbl2 := fun w h => (goodIn_r (big := lw_tbl2) wsL_law0_r31 [867, 868, 833, 835, 836, 838, 839, 869, 870, 871, 872, 873, 874, 875, 876, 689, 690, 691, 877, 686, 687, 688, 878, 879] (by decide +kernel) (by decide +kernel) w h).1
set_option maxRecDepth 20000 in
theorem wsN_r32 : ∀ w ∈ wsL_law0_r32, w ∈ lw_tbl2 := fun w h => (goodIn_r (big := lw_tbl2) wsL_law0_r32 [880, 881, 882, 883, 884, 885, 886, 915, 916, 917, 918, 919, 920, 921, 922, 923, 924, 925, 926, 927, 928, 929, 930, 931] (by decide +kernel) (by decide +kernel) w h).1
set_option maxRecDepth 20000 in
theorem wsN_r33 : ∀ w ∈ wsL_law0_r33, w ∈ lw_tbl2 := fun w h => (goodIn_r (big := lw_tbl2) wsL_law0_r33 [932, 933, 934, 981, 982, 983, 984, 985, 986, 987, 988, 952, 953, 954, 955, 989, 990, 991, 992, 993, 994, 995, 996, 998] (by decide +kernel) (by decide +kernel) w h).1
set_option maxRecDepth 20000 in
theorem wsN_r34 : ∀ w ∈ wsL_law0_r34, w ∈ lw_tbl2 := fun w h => (goodIn_r (big := lw_tbl2) wsL_law0_r34 [999, 1000, 1001, 1002, 771, 772, 773, 774, 775, 1003, 1004, 1005, 1006, 685, 935, 936, 937, 938, 939, 940, 941, 942, 944, 945] (by decide +kernel) (by decide +kernel) w h).1
set_option maxRecDepth 20000 in
theorem wsN_r35 : ∀ w ∈ wsL_law0_r35, w ∈ lw_tbl2 := fun w h => (goodIn_r (big := lw_tbl2) wsL_law0_r35 [946, 947, 948, 949, 950, 951, 956, 957, 958, 959, 960, 961, 962, 963, 964, 965, 966, 967, 968, 969, 970, 971, 972, 973] (by decide +kernel) (by decide +kernel) w h).1
set_option maxRecDepth 20000 in
theorem wsN_r36 : ∀ w ∈ wsL_law0_r36, w ∈ lw_tbl2 := fun w h => (goodIn_r (big := lw_tbl2) wsL_law0_r36 [974, 975, 976, 978, 20, 979, 709, 710, 711, 712, 713, 715, 9, 716, 719, 721, 10, 722, 750, 751, 752, 753, 754, 755] (by decide +kernel) (by decide +kernel) w h).1
set_option maxRecDepth 20000 in
theorem wsN_r37 : ∀ w ∈ wsL_law0_r37, w ∈ lw_tbl2 := fun w h => (goodIn_r (big := lw_tbl2) wsL_law0_r37 [756, 757, 758, 760, 11, 761, 762, 764, 12, 765, 766, 768, 13, 769, 770, 776, 777, 778, 779, 780, 782, 14, 783, 788] (by decide +kernel) (by decide +kernel) w h).1
set_option maxRecDepth 20000 in
theorem wsN_r38 : ∀ w ∈ wsL_law0_r38, w ∈ lw_tbl2 := fun w h => (goodIn_r (big := lw_tbl2) wsL_law0_r38 [789, 790, 791, 792, 794, 15, 795, 796, 798, 16, 799, 800, 802, 17, 803, 804, 806, 18, 807, 808, 809, 810, 811, 812] (by decide +kernel) (by decide +kernel) w h).1
set_option maxRecDepth 20000 in
theorem wsN_r39 : ∀ w ∈ wsL_law0_r39, w ∈ lw_tbl2 := fun w h => (goodIn_r (big := lw_tbl2) wsL_law0_r39 [813, 814, 815] (by decide +kernel) (by decide +kernel) w h).1
theorem wsN_wsX110 : ∀ w ∈ wsX110, w ∈ lw_tbl2 := fun w h => List.mem_append_left _ ((by decide +kernel : ∀ w ∈ wsX110, w ∈ lw_tbl) w h)
theorem wsN_wsX120 : ∀ w ∈ wsX120, w ∈ lw_tbl2 := fun w h => List.mem_append_left _ ((by decide +kernel : ∀ w ∈ wsX120, w ∈ lw_tbl) w h)
theorem wsN_wsX90 : ∀ w ∈ wsX90, w ∈ lw_tbl2 := fun w h => List.mem_append_left _ ((by decide +kernel : ∀ w ∈ wsX90, w ∈ lw_tbl) w h)
theorem wsN_wsX100 : ∀ w ∈ wsX100, w ∈ lw_tbl2 := fun w h => List.mem_append_left _ ((by decide +kernel : ∀ w ∈ wsX100, w ∈ lw_tbl) w h)
theorem wsN_wsX70 : ∀ w ∈ wsX70, w ∈ lw_tbl2 := fun w h => List.mem_append_left _ ((by decide +kernel : ∀ w ∈ wsX70, w ∈ lw_tbl) w h)
theorem wsN_wsX50 : ∀ w ∈ wsX50, w ∈ lw_tbl2 := fun w h => List.mem_append_left _ ((by decide +kernel : ∀ w ∈ wsX50, w ∈ lw_tbl) w h)
theorem wsN_wsX60 : ∀ w ∈ wsX60, w ∈ lw_tbl2 := fun w h => List.mem_append_left _ ((by decide +kernel : ∀ w ∈ wsX60, w ∈ lw_tbl) w h)
theorem wsN_wsX30 : ∀ w ∈ wsX30, w ∈ lw_tbl2 := fun w h => List.mem_append_left _ ((by decide +kernel : ∀ w ∈ wsX30, w ∈ lw_tbl) w h)
theorem wsN_wsX20 : ∀ w ∈ wsX20, w ∈ lw_tbl2 := fun w h => List.mem_append_left _ ((by decide +kernel : ∀ w ∈ wsX20, w ∈ lw_tbl) w h)
theorem wsN_wsX80 : ∀ w ∈ wsX80, w ∈ lw_tbl2 := fun w h => List.mem_append_left _ ((by decide +kernel : ∀ w ∈ wsX80, w ∈ lw_tbl) w h)
theorem wsN_wsX40 : ∀ w ∈ wsX40, w ∈ lw_tbl2 := fun w h => List.mem_append_left _ ((by decide +kernel : ∀ w ∈ wsX40, w ∈ lw_tbl) w h)
theorem wsN_wsJ00 : ∀ w ∈ wsJ00, w ∈ lw_tbl2 := fun w h => List.mem_append_left _ ((by decide +kernel : ∀ w ∈ wsJ00, w ∈ lw_tbl) w h)
theorem wsN_wsJ40 : ∀ w ∈ wsJ40, w ∈ lw_tbl2 := fun w h => List.mem_append_left _ ((by decide +kernel : ∀ w ∈ wsJ40, w ∈ lw_tbl) w h)
theorem or2 {A B : List Cond} {S : List Cond} (ha : ∀ w ∈ A, w ∈ S) (hb : ∀ w ∈ B, w ∈ S) : ∀ w ∈ A ++ B, w ∈ S := fun w h => (List.mem_append.mp h).elim (ha w) (hb w)
theorem wsL_in0 : ∀ w ∈ wsL_law0, w ∈ lw_tbl2 := (or2 (or2 (or2 (or2 (or2 (or2 (or2 (or2 (or2 (or2 (or2 (or2 (or2 (or2 (or2 wsN_r1 (or2 wsN_r2 (or2 wsN_r3 (or2 wsN_r4 (or2 wsN_r5 (or2 wsN_r6 (or2 wsN_r7 (or2 wsN_r8 (or2 wsN_r9 (or2 wsN_r10 (or2 wsN_r11 (or2 wsN_r12 (or2 wsN_r13 (or2 wsN_r14 (or2 wsN_r15 (or2 wsN_r16 (or2 wsN_r17 (or2 wsN_r18 (or2 wsN_r19 (or2 wsN_r20 (or2 wsN_r21 (or2 wsN_r22 (or2 wsN_r23 (or2 wsN_r24 (or2 wsN_r25 (or2 wsN_r26 (or2 wsN_r27 (or2 wsN_r28 (or2 wsN_r29 (or2 wsN_r30 (or2 wsN_r31 (or2 wsN_r32 (or2 wsN_r33 (or2 wsN_r34 (or2 wsN_r35 (or2 wsN_r36 (or2 wsN_r37 (or2 wsN_r38 wsN_r39)))))))))))))))))))))))))))))))))))))) wsN_wsX110) wsN_wsX120) wsN_wsX90) wsN_wsX100) wsN_wsX70) wsN_wsX50) wsN_wsX60) wsN_wsX30) wsN_wsX20) wsN_wsX80) wsN_wsX40) wsN_wsJ00) wsN_wsJ40) (fun _ h => nomatch h))
theorem wsL_in : ∀ w ∈ wsL_law, w ∈ lw_tbl2 := or2 (or2 (or2 wsL_in0 (fun w h => List.mem_append_left _ (wsL_law_x0 w h))) (fun w h => List.mem_append_left _ (wsL_law_x1 w h))) (fun w h => List.mem_append_left _ (wsL_law_x2 w h))
