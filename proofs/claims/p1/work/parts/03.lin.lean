theorem mem_pl {big : List Cond} (ws : List Cond) (ps : List Nat) (hp : ws = ps.filterMap (fun i => big[i]?)) : ∀ w ∈ ws, w ∈ big := by
  intro w hw
  rw [hp] at hw
  obtain ⟨i, -, hi⟩ := List.mem_filterMap.mp hw
  exact List.mem_of_getElem? hi
set_option maxRecDepth 20000 in
theorem in_wsL_law_r1 : ∀ w ∈ wsL_law_r1, w ∈ lw_tbl := mem_pl _ [87, 88, 67, 999, 1000, 73, 1413, 89, 90, 91, 92, 93, 94, 95, 221, 97, 98, 68, 222, 132, 223, 224, 133, 134] rfl
set_option maxRecDepth 20000 in
theorem in_wsL_law_r2 : ∀ w ∈ wsL_law_r2, w ∈ lw_tbl := mem_pl _ [69, 225, 169, 170, 70, 226, 185, 227, 187, 228, 189, 229, 230, 231, 191, 71, 100, 101, 102, 103, 104, 136, 137, 138] rfl
set_option maxRecDepth 20000 in
theorem in_wsL_law_r3 : ∀ w ∈ wsL_law_r3, w ∈ lw_tbl := mem_pl _ [168, 139, 140, 172, 173, 174, 175, 178, 192, 193, 194, 195, 199, 202, 203, 205, 209, 196, 197, 72, 198, 1001, 1002, 1003] rfl
set_option maxRecDepth 20000 in
theorem in_wsL_law_r4 : ∀ w ∈ wsL_law_r4, w ∈ lw_tbl := mem_pl _ [1004, 1005, 1006, 1007, 1008, 1009, 1010, 1012, 1013, 1014, 1015, 1016, 1018, 1023, 1135, 1025, 1030, 1032, 1033, 1034, 1036, 1037, 1038, 1039] rfl
set_option maxRecDepth 20000 in
theorem in_wsL_law_r5 : ∀ w ∈ wsL_law_r5, w ∈ lw_tbl := mem_pl _ [1040, 1041, 1042, 1043, 1044, 1045, 1046, 1047, 255, 256, 257, 258, 259, 260, 261, 262, 263, 264, 265, 1136, 1137, 1138, 1139, 1146] rfl
set_option maxRecDepth 20000 in
theorem in_wsL_law_r6 : ∀ w ∈ wsL_law_r6, w ∈ lw_tbl := mem_pl _ [1140, 1141, 1142, 1143, 1144, 1145, 266, 267, 268, 269, 270, 271, 272, 273, 274, 1147, 1148, 1149, 1150, 1151, 1011, 1152, 275, 276] rfl
set_option maxRecDepth 20000 in
theorem in_wsL_law_r7 : ∀ w ∈ wsL_law_r7, w ∈ lw_tbl := mem_pl _ [277, 278, 1153, 1154, 1155, 1156, 279, 280, 281, 282, 283, 284, 285, 286, 107, 106, 108, 109, 111, 110, 112, 287, 289, 0] rfl
set_option maxRecDepth 20000 in
theorem in_wsL_law_r8 : ∀ w ∈ wsL_law_r8, w ∈ lw_tbl := mem_pl _ [290, 291, 293, 1, 294, 295, 297, 2, 298, 299, 301, 3, 302, 303, 305, 4, 306, 307, 308, 309, 310, 311, 313, 5] rfl
set_option maxRecDepth 20000 in
theorem in_wsL_law_r9 : ∀ w ∈ wsL_law_r9, w ∈ lw_tbl := mem_pl _ [314, 316, 318, 6, 319, 320, 321, 322, 74, 323, 1414, 324, 325, 326, 327, 328, 1415, 330, 331, 332, 333, 334, 335, 336] rfl
set_option maxRecDepth 20000 in
theorem in_wsL_law_r10 : ∀ w ∈ wsL_law_r10, w ∈ lw_tbl := mem_pl _ [337, 338, 339, 75, 340, 341, 342, 343, 344, 346, 347, 76, 348, 349, 350, 77, 351, 352, 353, 354, 355, 356, 357, 358] rfl
set_option maxRecDepth 20000 in
theorem in_wsL_law_r11 : ∀ w ∈ wsL_law_r11, w ∈ lw_tbl := mem_pl _ [359, 360, 361, 362, 364, 366, 369, 371, 7, 372, 374, 375, 377, 379, 8, 380, 385, 386, 387, 388, 389, 390, 391, 392] rfl
set_option maxRecDepth 20000 in
theorem in_wsL_law_r12 : ∀ w ∈ wsL_law_r12, w ∈ lw_tbl := mem_pl _ [393, 394, 395, 397, 398, 1157, 1158, 1159, 1160, 1020, 1017, 1021, 1022, 1161, 1163, 33, 1164, 1165, 1166, 1167, 1168, 1170, 34, 1171] rfl
set_option maxRecDepth 20000 in
theorem in_wsL_law_r13 : ∀ w ∈ wsL_law_r13, w ∈ lw_tbl := mem_pl _ [1176, 1181, 1188, 1189, 1172, 1174, 35, 1175, 1177, 1179, 36, 1180, 1182, 1184, 37, 1185, 1186, 1187, 400, 401, 402, 403, 1190, 1191] rfl
set_option maxRecDepth 20000 in
theorem in_wsL_law_r14 : ∀ w ∈ wsL_law_r14, w ∈ lw_tbl := mem_pl _ [1192, 1193, 1194, 1195, 1196, 1197, 1198, 1200, 38, 1201, 404, 405, 406, 407, 408, 409, 410, 411, 412, 413, 414, 415, 416, 417] rfl
set_option maxRecDepth 20000 in
theorem in_wsL_law_r15 : ∀ w ∈ wsL_law_r15, w ∈ lw_tbl := mem_pl _ [418, 419, 420, 421, 422, 1202, 1203, 1204, 1205, 1210, 1211, 1206, 1208, 39, 1209, 423, 424, 425, 426, 427, 1212, 1213, 1214, 1215] rfl
set_option maxRecDepth 20000 in
theorem in_wsL_law_r16 : ∀ w ∈ wsL_law_r16, w ∈ lw_tbl := mem_pl _ [428, 429, 430, 431, 432, 1216, 1217, 1218, 1219, 1019, 433, 434, 435, 436, 437, 438, 439, 440, 1220, 1221, 1222, 1223, 1224, 1225] rfl
set_option maxRecDepth 20000 in
theorem in_wsL_law_r17 : ∀ w ∈ wsL_law_r17, w ∈ lw_tbl := mem_pl _ [441, 442, 443, 444, 445, 446, 447, 448, 142, 149, 151, 144, 147, 449, 450, 451, 452, 454, 9, 455, 456, 458, 10, 459] rfl
set_option maxRecDepth 20000 in
theorem in_wsL_law_r18 : ∀ w ∈ wsL_law_r18, w ∈ lw_tbl := mem_pl _ [460, 461, 462, 463, 464, 465, 466, 468, 11, 469, 470, 471, 1226, 1227, 1228, 1229, 1026, 1027, 1028, 1029, 1031, 1230, 1232, 40] rfl
set_option maxRecDepth 20000 in
theorem in_wsL_law_r19 : ∀ w ∈ wsL_law_r19, w ∈ lw_tbl := mem_pl _ [1233, 1024, 1234, 1236, 41, 1237, 472, 473, 474, 475, 1238, 1239, 1240, 1241, 476, 477, 478, 479, 480, 481, 78, 482, 483, 484] rfl
set_option maxRecDepth 20000 in
theorem in_wsL_law_r20 : ∀ w ∈ wsL_law_r20, w ∈ lw_tbl := mem_pl _ [485, 486, 487, 488, 489, 490, 491, 492, 493, 494, 495, 496, 497, 498, 499, 500, 501, 502, 503, 504, 505, 1242, 1243, 1244] rfl
set_option maxRecDepth 20000 in
theorem in_wsL_law_r21 : ∀ w ∈ wsL_law_r21, w ∈ lw_tbl := mem_pl _ [1245, 1246, 1248, 42, 1249, 1250, 1252, 43, 1253, 1254, 1255, 1257, 44, 1258, 1259, 1261, 45, 1262, 1263, 1264, 1265, 1266, 506, 507] rfl
set_option maxRecDepth 20000 in
theorem in_wsL_law_r22 : ∀ w ∈ wsL_law_r22, w ∈ lw_tbl := mem_pl _ [508, 509, 510, 512, 12, 513, 514, 515, 516, 517, 518, 519, 520, 79, 580, 582, 583, 579, 521, 522, 523, 524, 563, 525] rfl
set_option maxRecDepth 20000 in
theorem in_wsL_law_r23 : ∀ w ∈ wsL_law_r23, w ∈ lw_tbl := mem_pl _ [526, 80, 527, 528, 529, 81, 554, 560, 561, 562, 530, 531, 532, 533, 540, 534, 535, 536, 537, 538, 539, 593, 594, 595] rfl
set_option maxRecDepth 20000 in
theorem in_wsL_law_r24 : ∀ w ∈ wsL_law_r24, w ∈ lw_tbl := mem_pl _ [596, 597, 598, 599, 600, 601, 602, 603, 604, 605, 606, 607, 608, 609, 610, 611, 612, 613, 614, 616, 13, 617, 618, 619] rfl
set_option maxRecDepth 20000 in
theorem in_wsL_law_r25 : ∀ w ∈ wsL_law_r25, w ∈ lw_tbl := mem_pl _ [620, 621, 622, 623, 624, 625, 626, 627, 628, 629, 630, 631, 632, 633, 634, 1267, 1268, 1269, 1270, 1271, 1273, 46, 1274, 1035] rfl
set_option maxRecDepth 20000 in
theorem in_wsL_law_r26 : ∀ w ∈ wsL_law_r26, w ∈ lw_tbl := mem_pl _ [1275, 1277, 47, 1278, 1279, 1281, 48, 1282, 1283, 1285, 49, 1286, 635, 636, 637, 638, 1287, 1288, 1289, 1290, 639, 640, 641, 642] rfl
set_option maxRecDepth 20000 in
theorem in_wsL_law_r27 : ∀ w ∈ wsL_law_r27, w ∈ lw_tbl := mem_pl _ [643, 645, 14, 646, 712, 83, 647, 649, 15, 650, 651, 82, 652, 653, 654, 655, 656, 659, 662, 663, 664, 658, 657, 678] rfl
set_option maxRecDepth 20000 in
theorem in_wsL_law_r28 : ∀ w ∈ wsL_law_r28, w ∈ lw_tbl := mem_pl _ [679, 680, 681, 682, 683, 685, 16, 686, 687, 688, 689, 690, 691, 692, 693, 694, 695, 697, 17, 698, 699, 700, 701, 702] rfl
set_option maxRecDepth 20000 in
theorem in_wsL_law_r29 : ∀ w ∈ wsL_law_r29, w ∈ lw_tbl := mem_pl _ [703, 705, 18, 706, 707, 709, 19, 710, 711, 713, 714, 715, 716, 720, 721, 717, 722, 723, 725, 726, 727, 728, 729, 730] rfl
set_option maxRecDepth 20000 in
theorem in_wsL_law_r30 : ∀ w ∈ wsL_law_r30, w ∈ lw_tbl := mem_pl _ [731, 719, 718, 757, 758, 759, 760, 786, 788, 787, 84, 761, 763, 20, 764, 771, 765, 766, 767, 768, 769, 770, 772, 774] rfl
set_option maxRecDepth 20000 in
theorem in_wsL_law_r31 : ∀ w ∈ wsL_law_r31, w ∈ lw_tbl := mem_pl _ [21, 775, 776, 777, 779, 22, 780, 781, 782, 783, 784, 785, 789, 791, 23, 792, 793, 794, 796, 24, 797, 798, 800, 25] rfl
set_option maxRecDepth 20000 in
theorem in_wsL_law_r32 : ∀ w ∈ wsL_law_r32, w ∈ lw_tbl := mem_pl _ [801, 803, 805, 26, 806, 807, 808, 809, 810, 811, 813, 27, 814, 815, 1291, 1292, 1293, 1294, 1295, 1319, 1296, 1298, 50, 1299] rfl
set_option maxRecDepth 20000 in
theorem in_wsL_law_r33 : ∀ w ∈ wsL_law_r33, w ∈ lw_tbl := mem_pl _ [1300, 1302, 51, 1303, 1304, 1306, 52, 1307, 1308, 1309, 1310, 1311, 1313, 53, 1314, 1315, 1317, 54, 1318, 1320, 1322, 55, 1323, 1324] rfl
set_option maxRecDepth 20000 in
theorem in_wsL_law_r34 : ∀ w ∈ wsL_law_r34, w ∈ lw_tbl := mem_pl _ [1326, 56, 1327, 816, 817, 818, 819, 820, 821, 822, 823, 1328, 1329, 1330, 1331, 1332, 1333, 1335, 57, 1336, 824, 825, 826, 827] rfl
set_option maxRecDepth 20000 in
theorem in_wsL_law_r35 : ∀ w ∈ wsL_law_r35, w ∈ lw_tbl := mem_pl _ [828, 829, 830, 831, 1337, 1338, 1339, 1340, 832, 833, 834, 835, 1341, 1342, 1343, 1344, 1345, 1347, 58, 1348, 1349, 1351, 59, 1352] rfl
set_option maxRecDepth 20000 in
theorem in_wsL_law_r36 : ∀ w ∈ wsL_law_r36, w ∈ lw_tbl := mem_pl _ [836, 837, 838, 839, 840, 841, 842, 843, 1353, 1354, 1355, 1356, 1357, 1359, 60, 1360, 844, 845, 846, 847, 848, 850, 28, 851] rfl
set_option maxRecDepth 20000 in
theorem in_wsL_law_r37 : ∀ w ∈ wsL_law_r37, w ∈ lw_tbl := mem_pl _ [852, 853, 854, 855, 1361, 1362, 1363, 1364, 1365, 1367, 61, 1368, 1369, 1371, 62, 1372, 856, 857, 858, 859, 1373, 1374, 1375, 1376] rfl
set_option maxRecDepth 20000 in
theorem in_wsL_law_r38 : ∀ w ∈ wsL_law_r38, w ∈ lw_tbl := mem_pl _ [860, 861, 862, 863, 864, 865, 85, 866, 867, 868, 869, 870, 874, 876, 877, 878, 872, 873, 871, 893, 894, 895, 896, 900] rfl
set_option maxRecDepth 20000 in
theorem in_wsL_law_r39 : ∀ w ∈ wsL_law_r39, w ∈ lw_tbl := mem_pl _ [897, 898, 899, 901, 903, 29, 904, 905, 906, 1377, 1378, 1379, 1380, 1388, 1381, 1383, 63, 1384, 1385, 1386, 1387, 907, 908, 909] rfl
set_option maxRecDepth 20000 in
theorem in_wsL_law_r40 : ∀ w ∈ wsL_law_r40, w ∈ lw_tbl := mem_pl _ [910, 911, 912, 86, 913, 914, 915, 916, 917, 923, 924, 919, 925, 926, 927, 928, 929, 921, 922, 949, 950, 951, 952, 953] rfl
set_option maxRecDepth 20000 in
theorem in_wsL_law_r41 : ∀ w ∈ wsL_law_r41, w ∈ lw_tbl := mem_pl _ [955, 30, 956, 957, 959, 31, 960, 961, 962, 963, 964, 965, 966, 967, 968, 969, 970, 971, 972, 974, 976, 32, 977, 978] rfl
set_option maxRecDepth 20000 in
theorem in_wsL_law_r42 : ∀ w ∈ wsL_law_r42, w ∈ lw_tbl := mem_pl _ [979, 980, 981, 982, 983, 984, 985, 986, 1389, 1390, 1391, 1392, 1393, 1394, 1395, 1396, 1397, 1399, 64, 1400, 1401, 1403, 65, 1404] rfl
set_option maxRecDepth 20000 in
theorem in_wsL_law_r43 : ∀ w ∈ wsL_law_r43, w ∈ lw_tbl := mem_pl _ [987, 988, 989, 990, 993, 991, 992, 994, 1405, 1406, 1407, 1408, 995, 996, 997, 998, 1409, 1410, 1411, 1412] rfl
set_option maxRecDepth 20000 in
theorem in_wsX110 : ∀ w ∈ wsX110, w ∈ lw_tbl := mem_pl _ [232, 234, 236, 238, 240, 242, 244, 246, 248, 250, 252] rfl
set_option maxRecDepth 20000 in
theorem in_wsX120 : ∀ w ∈ wsX120, w ∈ lw_tbl := mem_pl _ [1048, 1050, 1052, 1054, 1056, 1058, 1060, 1062, 1064, 1066, 1068, 1070, 1072, 1074, 1076, 1078, 1080, 1082, 1084, 1086, 1088, 1090, 1092, 1094, 1096, 1098, 1100, 1102, 1104, 1106, 1108, 1110, 1112, 1114, 1116, 1118, 1120, 1122, 1124, 1126, 1128, 1130, 1132] rfl
set_option maxRecDepth 20000 in
theorem in_wsX90 : ∀ w ∈ wsX90, w ∈ lw_tbl := mem_pl _ [113, 115, 117, 119, 121, 123, 125, 127, 129] rfl
set_option maxRecDepth 20000 in
theorem in_wsX100 : ∀ w ∈ wsX100, w ∈ lw_tbl := mem_pl _ [153, 155, 157, 159, 161, 163, 165] rfl
set_option maxRecDepth 20000 in
theorem in_wsX70 : ∀ w ∈ wsX70, w ∈ lw_tbl := mem_pl _ [180, 182] rfl
set_option maxRecDepth 20000 in
theorem in_wsX60 : ∀ w ∈ wsX60, w ∈ lw_tbl := mem_pl _ [210, 212, 214, 216, 218] rfl
set_option maxRecDepth 20000 in
theorem in_wsX30 : ∀ w ∈ wsX30, w ∈ lw_tbl := mem_pl _ [584, 586, 588, 590] rfl
set_option maxRecDepth 20000 in
theorem in_wsX10 : ∀ w ∈ wsX10, w ∈ lw_tbl := mem_pl _ [568, 570, 572, 574, 576] rfl
set_option maxRecDepth 20000 in
theorem in_wsX20 : ∀ w ∈ wsX20, w ∈ lw_tbl := mem_pl _ [547, 549, 551] rfl
set_option maxRecDepth 20000 in
theorem in_wsX00 : ∀ w ∈ wsX00, w ∈ lw_tbl := mem_pl _ [667, 669, 671, 673, 675] rfl
set_option maxRecDepth 20000 in
theorem in_wsX40 : ∀ w ∈ wsX40, w ∈ lw_tbl := mem_pl _ [732, 734, 736, 738, 740, 742, 744, 746, 748, 750, 752, 754] rfl
set_option maxRecDepth 20000 in
theorem in_wsX50 : ∀ w ∈ wsX50, w ∈ lw_tbl := mem_pl _ [880, 882, 884, 886, 888, 890] rfl
set_option maxRecDepth 20000 in
theorem in_wsX80 : ∀ w ∈ wsX80, w ∈ lw_tbl := mem_pl _ [930, 932, 934, 936, 938, 940, 942, 944, 946] rfl
theorem in_wsL_rs : ∀ w ∈ (wsL_law_r1 ++ (wsL_law_r2 ++ (wsL_law_r3 ++ (wsL_law_r4 ++ (wsL_law_r5 ++ (wsL_law_r6 ++ (wsL_law_r7 ++ (wsL_law_r8 ++ (wsL_law_r9 ++ (wsL_law_r10 ++ (wsL_law_r11 ++ (wsL_law_r12 ++ (wsL_law_r13 ++ (wsL_law_r14 ++ (wsL_law_r15 ++ (wsL_law_r16 ++ (wsL_law_r17 ++ (wsL_law_r18 ++ (wsL_law_r19 ++ (wsL_law_r20 ++ (wsL_law_r21 ++ (wsL_law_r22 ++ (wsL_law_r23 ++ (wsL_law_r24 ++ (wsL_law_r25 ++ (wsL_law_r26 ++ (wsL_law_r27 ++ (wsL_law_r28 ++ (wsL_law_r29 ++ (wsL_law_r30 ++ (wsL_law_r31 ++ (wsL_law_r32 ++ (wsL_law_r33 ++ (wsL_law_r34 ++ (wsL_law_r35 ++ (wsL_law_r36 ++ (wsL_law_r37 ++ (wsL_law_r38 ++ (wsL_law_r39 ++ (wsL_law_r40 ++ (wsL_law_r41 ++ (wsL_law_r42 ++ (wsL_law_r43))))))))))))))))))))))))))))))))))))))))))), w ∈ lw_tbl := List.forall_mem_append.mpr ⟨in_wsL_law_r1, List.forall_mem_append.mpr ⟨in_wsL_law_r2, List.forall_mem_append.mpr ⟨in_wsL_law_r3, List.forall_mem_append.mpr ⟨in_wsL_law_r4, List.forall_mem_append.mpr ⟨in_wsL_law_r5, List.forall_mem_append.mpr ⟨in_wsL_law_r6, List.forall_mem_append.mpr ⟨in_wsL_law_r7, List.forall_mem_append.mpr ⟨in_wsL_law_r8, List.forall_mem_append.mpr ⟨in_wsL_law_r9, List.forall_mem_append.mpr ⟨in_wsL_law_r10, List.forall_mem_append.mpr ⟨in_wsL_law_r11, List.forall_mem_append.mpr ⟨in_wsL_law_r12, List.forall_mem_append.mpr ⟨in_wsL_law_r13, List.forall_mem_append.mpr ⟨in_wsL_law_r14, List.forall_mem_append.mpr ⟨in_wsL_law_r15, List.forall_mem_append.mpr ⟨in_wsL_law_r16, List.forall_mem_append.mpr ⟨in_wsL_law_r17, List.forall_mem_append.mpr ⟨in_wsL_law_r18, List.forall_mem_append.mpr ⟨in_wsL_law_r19, List.forall_mem_append.mpr ⟨in_wsL_law_r20, List.forall_mem_append.mpr ⟨in_wsL_law_r21, List.forall_mem_append.mpr ⟨in_wsL_law_r22, List.forall_mem_append.mpr ⟨in_wsL_law_r23, List.forall_mem_append.mpr ⟨in_wsL_law_r24, List.forall_mem_append.mpr ⟨in_wsL_law_r25, List.forall_mem_append.mpr ⟨in_wsL_law_r26, List.forall_mem_append.mpr ⟨in_wsL_law_r27, List.forall_mem_append.mpr ⟨in_wsL_law_r28, List.forall_mem_append.mpr ⟨in_wsL_law_r29, List.forall_mem_append.mpr ⟨in_wsL_law_r30, List.forall_mem_append.mpr ⟨in_wsL_law_r31, List.forall_mem_append.mpr ⟨in_wsL_law_r32, List.forall_mem_append.mpr ⟨in_wsL_law_r33, List.forall_mem_append.mpr ⟨in_wsL_law_r34, List.forall_mem_append.mpr ⟨in_wsL_law_r35, List.forall_mem_append.mpr ⟨in_wsL_law_r36, List.forall_mem_append.mpr ⟨in_wsL_law_r37, List.forall_mem_append.mpr ⟨in_wsL_law_r38, List.forall_mem_append.mpr ⟨in_wsL_law_r39, List.forall_mem_append.mpr ⟨in_wsL_law_r40, List.forall_mem_append.mpr ⟨in_wsL_law_r41, List.forall_mem_append.mpr ⟨in_wsL_law_r42, in_wsL_law_r43⟩⟩⟩⟩⟩⟩⟩⟩⟩⟩⟩⟩⟩⟩⟩⟩⟩⟩⟩⟩⟩⟩⟩⟩⟩⟩⟩⟩⟩⟩⟩⟩⟩⟩⟩⟩⟩⟩⟩⟩⟩⟩
theorem wsL_law_in : ∀ w ∈ wsL_law, w ∈ lw_tbl := List.forall_mem_append.mpr ⟨List.forall_mem_append.mpr ⟨List.forall_mem_append.mpr ⟨List.forall_mem_append.mpr ⟨List.forall_mem_append.mpr ⟨List.forall_mem_append.mpr ⟨List.forall_mem_append.mpr ⟨List.forall_mem_append.mpr ⟨List.forall_mem_append.mpr ⟨List.forall_mem_append.mpr ⟨List.forall_mem_append.mpr ⟨List.forall_mem_append.mpr ⟨List.forall_mem_append.mpr ⟨List.forall_mem_append.mpr ⟨in_wsL_rs, in_wsX110⟩, in_wsX120⟩, in_wsX90⟩, in_wsX100⟩, in_wsX70⟩, in_wsX60⟩, in_wsX30⟩, in_wsX10⟩, in_wsX20⟩, in_wsX00⟩, in_wsX40⟩, in_wsX50⟩, in_wsX80⟩, fun _ h => absurd h List.not_mem_nil⟩
theorem inlX0 : ∀ w ∈ wsX00, w ∈ wsL_law := fun _ h => List.mem_append_left _ (List.mem_append_left _ (List.mem_append_left _ (List.mem_append_left _ (List.mem_append_right _ h))))
theorem inX0 : ∀ w ∈ wsX00, w ∈ lw_tbl := fun w h => wsL_law_in w (inlX0 w h)
theorem inlX1 : ∀ w ∈ wsX10, w ∈ wsL_law := fun _ h => List.mem_append_left _ (List.mem_append_left _ (List.mem_append_left _ (List.mem_append_left _ (List.mem_append_left _ (List.mem_append_left _ (List.mem_append_right _ h))))))
theorem inX1 : ∀ w ∈ wsX10, w ∈ lw_tbl := fun w h => wsL_law_in w (inlX1 w h)
theorem inlX2 : ∀ w ∈ wsX20, w ∈ wsL_law := fun _ h => List.mem_append_left _ (List.mem_append_left _ (List.mem_append_left _ (List.mem_append_left _ (List.mem_append_left _ (List.mem_append_right _ h)))))
theorem inX2 : ∀ w ∈ wsX20, w ∈ lw_tbl := fun w h => wsL_law_in w (inlX2 w h)
theorem inlX3 : ∀ w ∈ wsX30, w ∈ wsL_law := fun _ h => List.mem_append_left _ (List.mem_append_left _ (List.mem_append_left _ (List.mem_append_left _ (List.mem_append_left _ (List.mem_append_left _ (List.mem_append_left _ (List.mem_append_right _ h)))))))
theorem inX3 : ∀ w ∈ wsX30, w ∈ lw_tbl := fun w h => wsL_law_in w (inlX3 w h)
theorem inlX4 : ∀ w ∈ wsX40, w ∈ wsL_law := fun _ h => List.mem_append_left _ (List.mem_append_left _ (List.mem_append_left _ (List.mem_append_right _ h)))
theorem inX4 : ∀ w ∈ wsX40, w ∈ lw_tbl := fun w h => wsL_law_in w (inlX4 w h)
theorem inlX5 : ∀ w ∈ wsX50, w ∈ wsL_law := fun _ h => List.mem_append_left _ (List.mem_append_left _ (List.mem_append_right _ h))
theorem inX5 : ∀ w ∈ wsX50, w ∈ lw_tbl := fun w h => wsL_law_in w (inlX5 w h)
theorem inlX6 : ∀ w ∈ wsX60, w ∈ wsL_law := fun _ h => List.mem_append_left _ (List.mem_append_left _ (List.mem_append_left _ (List.mem_append_left _ (List.mem_append_left _ (List.mem_append_left _ (List.mem_append_left _ (List.mem_append_left _ (List.mem_append_right _ h))))))))
theorem inX6 : ∀ w ∈ wsX60, w ∈ lw_tbl := fun w h => wsL_law_in w (inlX6 w h)
theorem inlX7 : ∀ w ∈ wsX70, w ∈ wsL_law := fun _ h => List.mem_append_left _ (List.mem_append_left _ (List.mem_append_left _ (List.mem_append_left _ (List.mem_append_left _ (List.mem_append_left _ (List.mem_append_left _ (List.mem_append_left _ (List.mem_append_left _ (List.mem_append_right _ h)))))))))
theorem inX7 : ∀ w ∈ wsX70, w ∈ lw_tbl := fun w h => wsL_law_in w (inlX7 w h)
theorem inlX8 : ∀ w ∈ wsX80, w ∈ wsL_law := fun _ h => List.mem_append_left _ (List.mem_append_right _ h)
theorem inX8 : ∀ w ∈ wsX80, w ∈ lw_tbl := fun w h => wsL_law_in w (inlX8 w h)
theorem inlX9 : ∀ w ∈ wsX90, w ∈ wsL_law := fun _ h => List.mem_append_left _ (List.mem_append_left _ (List.mem_append_left _ (List.mem_append_left _ (List.mem_append_left _ (List.mem_append_left _ (List.mem_append_left _ (List.mem_append_left _ (List.mem_append_left _ (List.mem_append_left _ (List.mem_append_left _ (List.mem_append_right _ h)))))))))))
theorem inX9 : ∀ w ∈ wsX90, w ∈ lw_tbl := fun w h => wsL_law_in w (inlX9 w h)
theorem inlX10 : ∀ w ∈ wsX100, w ∈ wsL_law := fun _ h => List.mem_append_left _ (List.mem_append_left _ (List.mem_append_left _ (List.mem_append_left _ (List.mem_append_left _ (List.mem_append_left _ (List.mem_append_left _ (List.mem_append_left _ (List.mem_append_left _ (List.mem_append_left _ (List.mem_append_right _ h))))))))))
theorem inX10 : ∀ w ∈ wsX100, w ∈ lw_tbl := fun w h => wsL_law_in w (inlX10 w h)
theorem inlX11 : ∀ w ∈ wsX110, w ∈ wsL_law := fun _ h => List.mem_append_left _ (List.mem_append_left _ (List.mem_append_left _ (List.mem_append_left _ (List.mem_append_left _ (List.mem_append_left _ (List.mem_append_left _ (List.mem_append_left _ (List.mem_append_left _ (List.mem_append_left _ (List.mem_append_left _ (List.mem_append_left _ (List.mem_append_left _ (List.mem_append_right _ h)))))))))))))
theorem inX11 : ∀ w ∈ wsX110, w ∈ lw_tbl := fun w h => wsL_law_in w (inlX11 w h)
theorem inlX12 : ∀ w ∈ wsX120, w ∈ wsL_law := fun _ h => List.mem_append_left _ (List.mem_append_left _ (List.mem_append_left _ (List.mem_append_left _ (List.mem_append_left _ (List.mem_append_left _ (List.mem_append_left _ (List.mem_append_left _ (List.mem_append_left _ (List.mem_append_left _ (List.mem_append_left _ (List.mem_append_left _ (List.mem_append_right _ h))))))))))))
theorem inX12 : ∀ w ∈ wsX120, w ∈ lw_tbl := fun w h => wsL_law_in w (inlX12 w h)
theorem inJ9 : ∀ w ∈ wsJ90, w ∈ lw_tbl := by decide +kernel
theorem inJ0 : ∀ w ∈ wsJ00, w ∈ lw_tbl := by decide +kernel
theorem inJ1 : ∀ w ∈ wsJ10, w ∈ lw_tbl := by decide +kernel
theorem inJ2 : ∀ w ∈ wsJ20, w ∈ lw_tbl := by decide +kernel
theorem inJ10 : ∀ w ∈ wsJ100, w ∈ lw_tbl := by decide +kernel
theorem inJ7 : ∀ w ∈ wsJ70, w ∈ lw_tbl := by decide +kernel
theorem inJ3 : ∀ w ∈ wsJ30, w ∈ lw_tbl := by decide +kernel
