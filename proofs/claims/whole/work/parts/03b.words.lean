theorem lw_mem (ws : List Cond) (ps : List Nat) (h : ws = ps.filterMap (fun i => lw_tbl[i]?)) : ∀ w ∈ ws, w ∈ lw_tbl := by
  intro w hw
  rw [h] at hw
  obtain ⟨i, -, hi⟩ := List.mem_filterMap.mp hw
  exact List.mem_of_getElem? hi
set_option maxRecDepth 20000 in
theorem wsL_law_c1 : ∀ w ∈ wsL_law0_r1, w ∈ lw_tbl := lw_mem _ [73, 74, 41, 1040, 1041, 64, 1323, 75, 76, 77, 78, 79, 80, 81, 606, 83, 42, 607, 188, 89, 45, 608, 365, 609] (by decide +kernel)
set_option maxRecDepth 20000 in
theorem wsL_law_c2 : ∀ w ∈ wsL_law0_r2, w ∈ lw_tbl := lw_mem _ [610, 611, 612, 84, 85, 86, 87, 88, 118, 122, 124, 126, 128, 130, 132, 134, 114, 116, 120, 90, 91, 92, 100, 102] (by decide +kernel)
set_option maxRecDepth 20000 in
theorem wsL_law_c3 : ∀ w ∈ wsL_law0_r3, w ∈ lw_tbl := lw_mem _ [93, 94, 44, 95, 104, 96, 97, 43, 98, 99, 189, 190, 192, 0, 193, 81, 119, 194, 195, 196, 197, 105, 106, 103] (by decide +kernel)
set_option maxRecDepth 20000 in
theorem wsL_law_c4 : ∀ w ∈ wsL_law0_r4, w ∈ lw_tbl := lw_mem _ [198, 199, 200, 201, 202, 204, 1, 205, 206, 208, 2, 209, 210, 212, 3, 213, 257, 218, 47, 219, 258, 214, 215, 46] (by decide +kernel)
set_option maxRecDepth 20000 in
theorem wsL_law_c5 : ∀ w ∈ wsL_law0_r5, w ∈ lw_tbl := lw_mem _ [216, 217, 220, 221, 222, 223, 224, 225, 48, 226, 227, 1349, 228, 244, 245, 246, 247, 248, 250, 251, 252, 253, 254, 256] (by decide +kernel)
set_option maxRecDepth 20000 in
theorem wsL_law_c6 : ∀ w ∈ wsL_law0_r6, w ∈ lw_tbl := lw_mem _ [255, 49, 259, 260, 261, 262, 263, 264, 265, 266, 267, 268, 50, 269, 270, 271, 51, 272, 273, 274, 275, 276, 277, 278] (by decide +kernel)
set_option maxRecDepth 20000 in
theorem wsL_law_c7 : ∀ w ∈ wsL_law0_r7, w ∈ lw_tbl := lw_mem _ [279, 280, 136, 138, 142, 140, 144, 281, 282, 283, 284, 605, 285, 287, 4, 288, 1042, 1043, 1044, 1045, 1047, 1104, 1048, 1049] (by decide +kernel)
set_option maxRecDepth 20000 in
theorem wsL_law_c8 : ∀ w ∈ wsL_law0_r8, w ∈ lw_tbl := lw_mem _ [1050, 1051, 1052, 1053, 1054, 1055, 1056, 1057, 1058, 1059, 1060, 1062, 1063, 732, 733, 40, 734, 735, 736, 737, 738, 739, 740, 741] (by decide +kernel)
set_option maxRecDepth 20000 in
theorem wsL_law_c9 : ∀ w ∈ wsL_law0_r9, w ∈ lw_tbl := lw_mem _ [743, 12, 744, 748, 55, 745, 746, 747, 752, 754, 13, 755, 756, 65, 117, 772, 774, 14, 775, 115, 1109, 1110, 1111, 1112] (by decide +kernel)
set_option maxRecDepth 20000 in
theorem wsL_law_c10 : ∀ w ∈ wsL_law0_r10, w ∈ lw_tbl := lw_mem _ [1113, 1115, 16, 1116, 1046, 1132, 1117, 1119, 17, 1120, 1121, 1122, 1123, 1124, 1126, 18, 1127, 1128, 1130, 19, 1131, 1133, 1135, 20] (by decide +kernel)
set_option maxRecDepth 20000 in
theorem wsL_law_c11 : ∀ w ∈ wsL_law0_r11, w ∈ lw_tbl := lw_mem _ [1136, 1105, 1106, 1107, 1108, 776, 777, 778, 779, 780, 781, 782, 783, 793, 794, 67, 795, 796, 68, 784, 785, 786, 787, 788] (by decide +kernel)
set_option maxRecDepth 20000 in
theorem wsL_law_c12 : ∀ w ∈ wsL_law0_r12, w ∈ lw_tbl := lw_mem _ [789, 790, 63, 797, 798, 799, 800, 801, 803, 804, 806, 816, 817, 818, 819, 820, 66, 821, 822, 823, 825, 1137, 1138, 1139] (by decide +kernel)
set_option maxRecDepth 20000 in
theorem wsL_law_c13 : ∀ w ∈ wsL_law0_r13, w ∈ lw_tbl := lw_mem _ [1140, 1141, 1142, 1143, 831, 832, 833, 834, 835, 836, 837, 838, 839, 69, 840, 841, 842, 847, 848, 849, 844, 845, 846, 1144] (by decide +kernel)
set_option maxRecDepth 20000 in
theorem wsL_law_c14 : ∀ w ∈ wsL_law0_r14, w ∈ lw_tbl := lw_mem _ [1145, 1146, 1147, 859, 860, 861, 862, 863, 864, 865, 680, 679, 867, 868, 70, 869, 870, 71, 866, 871, 872, 873, 874, 875] (by decide +kernel)
set_option maxRecDepth 20000 in
theorem wsL_law_c15 : ∀ w ∈ wsL_law0_r15, w ∈ lw_tbl := lw_mem _ [877, 884, 885, 886, 888, 889, 890, 887, 1148, 1149, 1150, 1151, 900, 901, 902, 903, 904, 905, 906, 121, 908, 909, 910, 911] (by decide +kernel)
set_option maxRecDepth 20000 in
theorem wsL_law_c16 : ∀ w ∈ wsL_law0_r16, w ∈ lw_tbl := lw_mem _ [912, 913, 729, 730, 731, 914, 915, 916, 917, 918, 920, 15, 921, 1152, 1153, 1154, 1155, 1064, 1156, 1158, 21, 1159, 1160, 1162] (by decide +kernel)
set_option maxRecDepth 20000 in
theorem wsL_law_c17 : ∀ w ∈ wsL_law0_r17, w ∈ lw_tbl := lw_mem _ [22, 1163, 1164, 1166, 23, 1167, 1168, 1170, 24, 1171, 922, 923, 924, 925, 926, 927, 928, 1172, 1173, 1174, 1175, 1176, 1178, 25] (by decide +kernel)
set_option maxRecDepth 20000 in
theorem wsL_law_c18 : ∀ w ∈ wsL_law0_r18, w ∈ lw_tbl := lw_mem _ [1179, 931, 932, 933, 934, 935, 936, 937, 726, 727, 728, 824, 123, 125, 127, 141, 129, 143, 145, 135, 133, 1180, 1181, 1182] (by decide +kernel)
set_option maxRecDepth 20000 in
theorem wsL_law_c19 : ∀ w ∈ wsL_law0_r19, w ∈ lw_tbl := lw_mem _ [1183, 1184, 1186, 26, 1187, 1188, 1190, 27, 1191, 1192, 1194, 28, 1195, 1196, 1198, 29, 1199, 938, 939, 940, 941, 942, 943, 944] (by decide +kernel)
set_option maxRecDepth 20000 in
theorem wsL_law_c20 : ∀ w ∈ wsL_law0_r20, w ∈ lw_tbl := lw_mem _ [1200, 1201, 1202, 1203, 628, 629, 630, 631, 1204, 1205, 1206, 1207, 1208, 1210, 30, 1211, 945, 946, 947, 948, 949, 950, 951, 1212] (by decide +kernel)
set_option maxRecDepth 20000 in
theorem wsL_law_c21 : ∀ w ∈ wsL_law0_r21, w ∈ lw_tbl := lw_mem _ [1213, 1214, 1215, 952, 953, 954, 955, 956, 957, 958, 1216, 1217, 1218, 1219, 959, 960, 961, 962, 963, 964, 965, 131, 1220, 1221] (by decide +kernel)
set_option maxRecDepth 20000 in
theorem wsL_law_c22 : ∀ w ∈ wsL_law0_r22, w ∈ lw_tbl := lw_mem _ [1222, 1223, 966, 967, 968, 969, 970, 971, 972, 1224, 1225, 1226, 1227, 973, 974, 975, 976, 977, 978, 979, 1228, 1229, 1230, 1231] (by decide +kernel)
set_option maxRecDepth 20000 in
theorem wsL_law_c23 : ∀ w ∈ wsL_law0_r23, w ∈ lw_tbl := lw_mem _ [981, 982, 983, 984, 985, 986, 987, 1232, 1233, 1234, 1235, 1061, 988, 989, 990, 991, 992, 993, 994, 995, 996, 997, 640, 642] (by decide +kernel)
set_option maxRecDepth 20000 in
theorem wsL_law_c24 : ∀ w ∈ wsL_law0_r24, w ∈ lw_tbl := lw_mem _ [8, 643, 148, 644, 646, 9, 647, 137, 139, 146, 681, 147, 648, 650, 651, 649, 654, 802, 659, 805, 660, 655, 656, 657] (by decide +kernel)
set_option maxRecDepth 20000 in
theorem wsL_law_c25 : ∀ w ∈ wsL_law0_r25, w ∈ lw_tbl := lw_mem _ [658, 661, 663, 664, 665, 666, 667, 668, 669, 670, 671, 672, 673, 674, 675, 876, 878, 677, 678, 652, 653, 682, 683, 684] (by decide +kernel)
set_option maxRecDepth 20000 in
theorem wsL_law_c26 : ∀ w ∈ wsL_law0_r26, w ∈ lw_tbl := lw_mem _ [685, 686, 688, 690, 10, 691, 692, 693, 694, 695, 696, 697, 698, 699, 700, 701, 702, 704, 11, 705, 706, 707, 708, 1236] (by decide +kernel)
set_option maxRecDepth 20000 in
theorem wsL_law_c27 : ∀ w ∈ wsL_law0_r27, w ∈ lw_tbl := lw_mem _ [1237, 1238, 1239, 1240, 1241, 1242, 1243, 1245, 31, 1246, 1247, 1249, 32, 1250, 1251, 1253, 33, 1254, 1255, 1257, 34, 1258, 1259, 1260] (by decide +kernel)
set_option maxRecDepth 20000 in
theorem wsL_law_c28 : ∀ w ∈ wsL_law0_r28, w ∈ lw_tbl := lw_mem _ [1261, 1262, 1263, 1264, 1265, 1266, 1268, 35, 1269, 1270, 1272, 36, 1273, 999, 1000, 1001, 1002, 1003, 1004, 1005, 1274, 1275, 1276, 1277] (by decide +kernel)
set_option maxRecDepth 20000 in
theorem wsL_law_c29 : ∀ w ∈ wsL_law0_r29, w ∈ lw_tbl := lw_mem _ [1006, 1007, 1008, 1009, 1010, 1011, 1012, 1278, 1279, 1280, 1281, 1282, 1284, 37, 1285, 1013, 1014, 1015, 1016, 1017, 1018, 1019, 709, 710] (by decide +kernel)
set_option maxRecDepth 20000 in
theorem wsL_law_c30 : ∀ w ∈ wsL_law0_r30, w ∈ lw_tbl := lw_mem _ [72, 711, 712, 713, 714, 1020, 1021, 1022, 1023, 1024, 1025, 1286, 1287, 1288, 1289, 1290, 1291, 1026, 1027, 1028, 1029, 1030, 1031, 1032] (by decide +kernel)
set_option maxRecDepth 20000 in
theorem wsL_law_c31 : ∀ w ∈ wsL_law0_r31, w ∈ lw_tbl := lw_mem _ [1292, 1293, 1294, 1295, 1296, 1298, 38, 1299, 632, 633, 634, 635, 636, 638, 7, 639, 1300, 1301, 1302, 1303, 1304, 1306, 39, 1307] (by decide +kernel)
set_option maxRecDepth 20000 in
theorem wsL_law_c32 : ∀ w ∈ wsL_law0_r32, w ∈ lw_tbl := lw_mem _ [1033, 1034, 1035, 1036, 1037, 1038, 1039, 1308, 1309, 1310, 1311, 715, 716, 717, 718, 719, 1312, 1313, 1314, 1315, 1316, 720, 721, 722] (by decide +kernel)
set_option maxRecDepth 20000 in
theorem wsL_law_c33 : ∀ w ∈ wsL_law0_r33, w ∈ lw_tbl := lw_mem _ [723, 724, 725, 1317, 1318, 1319, 1320, 1321, 1322] (by decide +kernel)
set_option maxRecDepth 20000 in
theorem wsL_law_dX7 : ∀ w ∈ wsX70, w ∈ lw_tbl := by decide +kernel
set_option maxRecDepth 20000 in
theorem wsL_law_dX8 : ∀ w ∈ wsX80, w ∈ lw_tbl := by decide +kernel
set_option maxRecDepth 20000 in
theorem wsL_law_dX3 : ∀ w ∈ wsX30, w ∈ lw_tbl := by decide +kernel
set_option maxRecDepth 20000 in
theorem wsL_law_dJx4a65c : ∀ w ∈ wsJx4a65c0, w ∈ lw_tbl := by decide +kernel
set_option maxRecDepth 20000 in
theorem wsL_law_dX4 : ∀ w ∈ wsX40, w ∈ lw_tbl := by decide +kernel
set_option maxRecDepth 20000 in
theorem wsL_law_dX0 : ∀ w ∈ wsX00, w ∈ lw_tbl := by decide +kernel
set_option maxRecDepth 20000 in
theorem wsL_law_dX2 : ∀ w ∈ wsX20, w ∈ lw_tbl := by decide +kernel
set_option maxRecDepth 20000 in
theorem wsL_law_dX6 : ∀ w ∈ wsX60, w ∈ lw_tbl := by decide +kernel
set_option maxRecDepth 20000 in
theorem wsL_law_dX1 : ∀ w ∈ wsX10, w ∈ lw_tbl := by decide +kernel
theorem wsL_law_in0 : ∀ w ∈ wsL_law0, w ∈ lw_tbl := by
  unfold wsL_law0
  exact List.forall_mem_append.mpr ⟨List.forall_mem_append.mpr ⟨List.forall_mem_append.mpr ⟨List.forall_mem_append.mpr ⟨List.forall_mem_append.mpr ⟨List.forall_mem_append.mpr ⟨List.forall_mem_append.mpr ⟨List.forall_mem_append.mpr ⟨List.forall_mem_append.mpr ⟨List.forall_mem_append.mpr ⟨List.forall_mem_append.mpr ⟨wsL_law_c1, List.forall_mem_append.mpr ⟨wsL_law_c2, List.forall_mem_append.mpr ⟨wsL_law_c3, List.forall_mem_append.mpr ⟨wsL_law_c4, List.forall_mem_append.mpr ⟨wsL_law_c5, List.forall_mem_append.mpr ⟨wsL_law_c6, List.forall_mem_append.mpr ⟨wsL_law_c7, List.forall_mem_append.mpr ⟨wsL_law_c8, List.forall_mem_append.mpr ⟨wsL_law_c9, List.forall_mem_append.mpr ⟨wsL_law_c10, List.forall_mem_append.mpr ⟨wsL_law_c11, List.forall_mem_append.mpr ⟨wsL_law_c12, List.forall_mem_append.mpr ⟨wsL_law_c13, List.forall_mem_append.mpr ⟨wsL_law_c14, List.forall_mem_append.mpr ⟨wsL_law_c15, List.forall_mem_append.mpr ⟨wsL_law_c16, List.forall_mem_append.mpr ⟨wsL_law_c17, List.forall_mem_append.mpr ⟨wsL_law_c18, List.forall_mem_append.mpr ⟨wsL_law_c19, List.forall_mem_append.mpr ⟨wsL_law_c20, List.forall_mem_append.mpr ⟨wsL_law_c21, List.forall_mem_append.mpr ⟨wsL_law_c22, List.forall_mem_append.mpr ⟨wsL_law_c23, List.forall_mem_append.mpr ⟨wsL_law_c24, List.forall_mem_append.mpr ⟨wsL_law_c25, List.forall_mem_append.mpr ⟨wsL_law_c26, List.forall_mem_append.mpr ⟨wsL_law_c27, List.forall_mem_append.mpr ⟨wsL_law_c28, List.forall_mem_append.mpr ⟨wsL_law_c29, List.forall_mem_append.mpr ⟨wsL_law_c30, List.forall_mem_append.mpr ⟨wsL_law_c31, List.forall_mem_append.mpr ⟨wsL_law_c32, wsL_law_c33⟩⟩⟩⟩⟩⟩⟩⟩⟩⟩⟩⟩⟩⟩⟩⟩⟩⟩⟩⟩⟩⟩⟩⟩⟩⟩⟩⟩⟩⟩⟩⟩, wsL_law_dX7⟩, wsL_law_dX8⟩, wsL_law_dX3⟩, wsL_law_dJx4a65c⟩, wsL_law_dX4⟩, wsL_law_dX0⟩, wsL_law_dX2⟩, wsL_law_dX6⟩, wsL_law_dX1⟩, fun _ h => absurd h List.not_mem_nil⟩
theorem wsL_law_x0 : ∀ w ∈ (vx_atS RX7 225 "java/lang/IndexOutOfBoundsException" ["java/lang/RuntimeException", "java/lang/Exception"]).filter goodWord, w ∈ lw_tbl := by decide +kernel
theorem wsL_law_x1 : ∀ w ∈ (vx_atS RX7 109 "java/lang/IllegalStateException" ["java/lang/RuntimeException", "java/lang/Exception"]).filter goodWord, w ∈ lw_tbl := by decide +kernel
theorem wsL_law_x2 : ∀ w ∈ (vx_atS RX7 234 "java/lang/IllegalArgumentException" ["java/lang/RuntimeException", "java/lang/Exception"]).filter goodWord, w ∈ lw_tbl := by decide +kernel
theorem wsL_law_in : ∀ w ∈ wsL_law, w ∈ lw_tbl := fun w h => (List.mem_append.mp h).elim (fun h => (List.mem_append.mp h).elim (fun h => (List.mem_append.mp h).elim (fun h => wsL_law_in0 w h) (fun h => wsL_law_x0 w h)) (fun h => wsL_law_x1 w h)) (fun h => wsL_law_x2 w h)
theorem inlX0 : ∀ w ∈ wsX00, w ∈ wsL_law := fun _ h => List.mem_append_left _ (List.mem_append_left _ (List.mem_append_left _ (List.mem_append_left _ (List.mem_append_left _ (List.mem_append_left _ (List.mem_append_left _ (List.mem_append_right _ h)))))))
theorem inX0 : ∀ w ∈ wsX00, w ∈ lw_tbl := fun w h => wsL_law_in w (inlX0 w h)
theorem inlX1 : ∀ w ∈ wsX10, w ∈ wsL_law := fun _ h => List.mem_append_left _ (List.mem_append_left _ (List.mem_append_left _ (List.mem_append_left _ (List.mem_append_right _ h))))
theorem inX1 : ∀ w ∈ wsX10, w ∈ lw_tbl := fun w h => wsL_law_in w (inlX1 w h)
theorem inlX2 : ∀ w ∈ wsX20, w ∈ wsL_law := fun _ h => List.mem_append_left _ (List.mem_append_left _ (List.mem_append_left _ (List.mem_append_left _ (List.mem_append_left _ (List.mem_append_left _ (List.mem_append_right _ h))))))
theorem inX2 : ∀ w ∈ wsX20, w ∈ lw_tbl := fun w h => wsL_law_in w (inlX2 w h)
theorem inlX3 : ∀ w ∈ wsX30, w ∈ wsL_law := fun _ h => List.mem_append_left _ (List.mem_append_left _ (List.mem_append_left _ (List.mem_append_left _ (List.mem_append_left _ (List.mem_append_left _ (List.mem_append_left _ (List.mem_append_left _ (List.mem_append_left _ (List.mem_append_left _ (List.mem_append_right _ h))))))))))
theorem inX3 : ∀ w ∈ wsX30, w ∈ lw_tbl := fun w h => wsL_law_in w (inlX3 w h)
theorem inlX4 : ∀ w ∈ wsX40, w ∈ wsL_law := fun _ h => List.mem_append_left _ (List.mem_append_left _ (List.mem_append_left _ (List.mem_append_left _ (List.mem_append_left _ (List.mem_append_left _ (List.mem_append_left _ (List.mem_append_left _ (List.mem_append_right _ h))))))))
theorem inX4 : ∀ w ∈ wsX40, w ∈ lw_tbl := fun w h => wsL_law_in w (inlX4 w h)
theorem inX5 : ∀ w ∈ wsX50, w ∈ lw_tbl := by decide +kernel
theorem inlX6 : ∀ w ∈ wsX60, w ∈ wsL_law := fun _ h => List.mem_append_left _ (List.mem_append_left _ (List.mem_append_left _ (List.mem_append_left _ (List.mem_append_left _ (List.mem_append_right _ h)))))
theorem inX6 : ∀ w ∈ wsX60, w ∈ lw_tbl := fun w h => wsL_law_in w (inlX6 w h)
theorem inlX7 : ∀ w ∈ wsX70, w ∈ wsL_law := fun _ h => List.mem_append_left _ (List.mem_append_left _ (List.mem_append_left _ (List.mem_append_left _ (List.mem_append_left _ (List.mem_append_left _ (List.mem_append_left _ (List.mem_append_left _ (List.mem_append_left _ (List.mem_append_left _ (List.mem_append_left _ (List.mem_append_left _ (List.mem_append_right _ h))))))))))))
theorem inX7 : ∀ w ∈ wsX70, w ∈ lw_tbl := fun w h => wsL_law_in w (inlX7 w h)
theorem inlX8 : ∀ w ∈ wsX80, w ∈ wsL_law := fun _ h => List.mem_append_left _ (List.mem_append_left _ (List.mem_append_left _ (List.mem_append_left _ (List.mem_append_left _ (List.mem_append_left _ (List.mem_append_left _ (List.mem_append_left _ (List.mem_append_left _ (List.mem_append_left _ (List.mem_append_left _ (List.mem_append_right _ h)))))))))))
theorem inX8 : ∀ w ∈ wsX80, w ∈ lw_tbl := fun w h => wsL_law_in w (inlX8 w h)
theorem inJx145de : ∀ w ∈ wsJx145de0, w ∈ lw_tbl := by decide +kernel
theorem inJ5 : ∀ w ∈ wsJ50, w ∈ lw_tbl := by decide +kernel
theorem inJx2cfe8 : ∀ w ∈ wsJx2cfe80, w ∈ lw_tbl := by decide +kernel
theorem inJx9f9b0 : ∀ w ∈ wsJx9f9b00, w ∈ lw_tbl := by decide +kernel
theorem inJx8e188 : ∀ w ∈ wsJx8e1880, w ∈ lw_tbl := by decide +kernel
theorem inJxb160c : ∀ w ∈ wsJxb160c0, w ∈ lw_tbl := by decide +kernel
theorem inJ6 : ∀ w ∈ wsJ60, w ∈ lw_tbl := by decide +kernel
theorem inJxab1ab : ∀ w ∈ wsJxab1ab0, w ∈ lw_tbl := by decide +kernel
theorem inJ13 : ∀ w ∈ wsJ130, w ∈ lw_tbl := by decide +kernel
theorem inJ9 : ∀ w ∈ wsJ90, w ∈ lw_tbl := by decide +kernel
theorem inJxd2413 : ∀ w ∈ wsJxd24130, w ∈ lw_tbl := by decide +kernel
theorem inJ0 : ∀ w ∈ wsJ00, w ∈ lw_tbl := by decide +kernel
theorem inJ4 : ∀ w ∈ wsJ40, w ∈ lw_tbl := by decide +kernel
theorem inJ1 : ∀ w ∈ wsJ10, w ∈ lw_tbl := by decide +kernel
theorem inJ2 : ∀ w ∈ wsJ20, w ∈ lw_tbl := by decide +kernel
theorem inJ10 : ∀ w ∈ wsJ100, w ∈ lw_tbl := by decide +kernel
theorem inJxfd54e : ∀ w ∈ wsJxfd54e0, w ∈ lw_tbl := by decide +kernel
theorem inJx3cf43 : ∀ w ∈ wsJx3cf430, w ∈ lw_tbl := by decide +kernel
theorem inJxa1e45 : ∀ w ∈ wsJxa1e450, w ∈ lw_tbl := by decide +kernel
theorem inJxc12de : ∀ w ∈ wsJxc12de0, w ∈ lw_tbl := by decide +kernel
theorem inlJx4a65c : ∀ w ∈ wsJx4a65c0, w ∈ wsL_law := fun _ h => List.mem_append_left _ (List.mem_append_left _ (List.mem_append_left _ (List.mem_append_left _ (List.mem_append_left _ (List.mem_append_left _ (List.mem_append_left _ (List.mem_append_left _ (List.mem_append_left _ (List.mem_append_right _ h)))))))))
theorem inJx4a65c : ∀ w ∈ wsJx4a65c0, w ∈ lw_tbl := fun w h => wsL_law_in w (inlJx4a65c w h)
theorem inJ7 : ∀ w ∈ wsJ70, w ∈ lw_tbl := by decide +kernel
theorem inJx5ef63 : ∀ w ∈ wsJx5ef630, w ∈ lw_tbl := by decide +kernel
theorem inJxbd725 : ∀ w ∈ wsJxbd7250, w ∈ lw_tbl := by decide +kernel
theorem inJ15 : ∀ w ∈ wsJ150, w ∈ lw_tbl := by decide +kernel
theorem inJxf0a74 : ∀ w ∈ wsJxf0a740, w ∈ lw_tbl := by decide +kernel
theorem inJxa66e6 : ∀ w ∈ wsJxa66e60, w ∈ lw_tbl := by decide +kernel
theorem inJ8 : ∀ w ∈ wsJ80, w ∈ lw_tbl := by decide +kernel
theorem inJ3 : ∀ w ∈ wsJ30, w ∈ lw_tbl := by decide +kernel
