theorem zmem_r {big ws : List Cond} (ps : List Nat) (hp : ws = ps.filterMap (fun i => big[i]?)) : ∀ w ∈ ws, w ∈ big := by
  intro w hw
  rw [hp] at hw
  obtain ⟨i, -, hi⟩ := List.mem_filterMap.mp hw
  exact List.mem_of_getElem? hi
theorem zmem_app {big a b : List Cond} (ha : ∀ w ∈ a, w ∈ big) (hb : ∀ w ∈ b, w ∈ big) : ∀ w ∈ a ++ b, w ∈ big := fun w h => (List.mem_append.mp h).elim (ha w) (hb w)
set_option maxRecDepth 20000 in
theorem wsL_law0_in_r1 : ∀ w ∈ wsL_law0_r1, w ∈ lw_tbl := zmem_r [71, 72, 41, 1125, 1126, 50, 770, 771, 51, 73, 74, 75, 76, 77, 78, 79, 80, 44, 171, 172, 173, 174, 105, 106] (by decide +kernel)
set_option maxRecDepth 20000 in
theorem wsL_law0_in_r2 : ∀ w ∈ wsL_law0_r2, w ∈ lw_tbl := zmem_r [45, 175, 176, 138, 139, 47, 177, 178, 81, 82, 83, 91, 93, 84, 85, 43, 86, 95, 87, 88, 42, 89, 90, 107] (by decide +kernel)
set_option maxRecDepth 20000 in
theorem wsL_law0_in_r3 : ∀ w ∈ wsL_law0_r3, w ∈ lw_tbl := zmem_r [108, 109, 110, 113, 115, 137, 117, 119, 111, 121, 140, 141, 142, 143, 144, 46, 145, 146, 147, 170, 156, 157, 149, 150] (by decide +kernel)
set_option maxRecDepth 20000 in
theorem wsL_law0_in_r4 : ∀ w ∈ wsL_law0_r4, w ∈ lw_tbl := zmem_r [49, 151, 152, 153, 154, 155, 1127, 1128, 1129, 1130, 1131, 1134, 1132, 773, 774, 775, 783, 784, 40, 785, 786, 787, 788, 789] (by decide +kernel)
set_option maxRecDepth 20000 in
theorem wsL_law0_in_r5 : ∀ w ∈ wsL_law0_r5, w ∈ lw_tbl := zmem_r [790, 791, 729, 55, 793, 794, 795, 797, 799, 15, 800, 801, 56, 200, 201, 202, 203, 94, 817, 819, 16, 820, 821, 822] (by decide +kernel)
set_option maxRecDepth 20000 in
theorem wsL_law0_in_r6 : ∀ w ∈ wsL_law0_r6, w ∈ lw_tbl := zmem_r [823, 824, 96, 97, 825, 827, 17, 828, 829, 831, 18, 832, 833, 835, 19, 836, 864, 271, 58, 272, 865, 837, 268, 57] (by decide +kernel)
set_option maxRecDepth 20000 in
theorem wsL_law0_in_r7 : ∀ w ∈ wsL_law0_r7, w ∈ lw_tbl := zmem_r [269, 270, 273, 274, 275, 276, 838, 839, 59, 840, 841, 1495, 842, 857, 858, 859, 860, 861, 863, 288, 289, 290, 291, 293] (by decide +kernel)
set_option maxRecDepth 20000 in
theorem wsL_law0_in_r8 : ∀ w ∈ wsL_law0_r8, w ∈ lw_tbl := zmem_r [292, 60, 1149, 1150, 1151, 1152, 1165, 1166, 61, 1153, 1154, 1155, 1156, 1158, 22, 1159, 1133, 1160, 1162, 23, 1163, 1164, 1167, 1168] (by decide +kernel)
set_option maxRecDepth 20000 in
theorem wsL_law0_in_r9 : ∀ w ∈ wsL_law0_r9, w ∈ lw_tbl := zmem_r [1169, 1170, 1175, 1177, 1179, 1171, 1172, 1173, 1174, 1188, 866, 867, 868, 869, 870, 871, 872, 873, 874, 875, 876, 878, 879, 880] (by decide +kernel)
set_option maxRecDepth 20000 in
theorem wsL_law0_in_r10 : ∀ w ∈ wsL_law0_r10, w ∈ lw_tbl := zmem_r [881, 220, 221, 62, 222, 223, 224, 63, 225, 882, 884, 20, 885, 886, 1189, 1190, 1191, 1192, 1193, 1194, 196, 197, 198, 199] (by decide +kernel)
set_option maxRecDepth 20000 in
theorem wsL_law0_in_r11 : ∀ w ∈ wsL_law0_r11, w ∈ lw_tbl := zmem_r [204, 205, 206, 207, 1195, 1196, 1197, 1198, 1199, 887, 888, 889, 890, 891, 892, 893, 894, 736, 738, 14, 739, 740, 64, 105] (by decide +kernel)
set_option maxRecDepth 20000 in
theorem wsL_law0_in_r12 : ∀ w ∈ wsL_law0_r12, w ∈ lw_tbl := zmem_r [216, 217, 218, 219, 226, 227, 228, 229, 757, 758, 759, 895, 896, 897, 899, 900, 901, 902, 904, 905, 906, 907, 58, 908] (by decide +kernel)
set_option maxRecDepth 20000 in
theorem wsL_law0_in_r13 : ∀ w ∈ wsL_law0_r13, w ∈ lw_tbl := zmem_r [663, 665, 8, 666, 1200, 1201, 1202, 1203, 1165, 1204, 1206, 24, 1207, 1208, 1210, 25, 1211, 1212, 1213, 1214, 1215, 1216, 1217, 1218] (by decide +kernel)
set_option maxRecDepth 20000 in
theorem wsL_law0_in_r14 : ∀ w ∈ wsL_law0_r14, w ∈ lw_tbl := zmem_r [1219, 1220, 1221, 1222, 1223, 1225, 1226, 1227, 909, 910, 911, 912, 913, 914, 915, 917, 918, 919, 921, 922, 923, 924, 1228, 1229] (by decide +kernel)
set_option maxRecDepth 20000 in
theorem wsL_law0_in_r15 : ∀ w ∈ wsL_law0_r15, w ∈ lw_tbl := zmem_r [1230, 1231, 1176, 1232, 925, 926, 927, 928, 929, 930, 931, 932, 933, 934, 935, 1233, 1234, 1235, 1236, 936, 937, 938, 939, 940] (by decide +kernel)
set_option maxRecDepth 20000 in
theorem wsL_law0_in_r16 : ∀ w ∈ wsL_law0_r16, w ∈ lw_tbl := zmem_r [941, 942, 728, 943, 944, 945, 947, 948, 949, 722, 723, 724, 725, 726, 727, 950, 952, 21, 953, 659, 660, 661, 662, 1237] (by decide +kernel)
set_option maxRecDepth 20000 in
theorem wsL_law0_in_r17 : ∀ w ∈ wsL_law0_r17, w ∈ lw_tbl := zmem_r [1238, 1239, 1240, 1241, 1243, 26, 1244, 1245, 1247, 27, 1248, 1178, 1180, 1249, 1250, 1251, 1252, 1253, 1254, 1255, 1256, 1258, 28, 1259] (by decide +kernel)
set_option maxRecDepth 20000 in
theorem wsL_law0_in_r18 : ∀ w ∈ wsL_law0_r18, w ∈ lw_tbl := zmem_r [1264, 1260, 1261, 1262, 1263, 955, 956, 957, 958, 959, 960, 961, 962, 963, 964, 965, 1265, 1266, 1267, 1268, 967, 968, 969, 970] (by decide +kernel)
set_option maxRecDepth 20000 in
theorem wsL_law0_in_r19 : ∀ w ∈ wsL_law0_r19, w ∈ lw_tbl := zmem_r [971, 972, 973, 1269, 1270, 1271, 1272, 974, 975, 976, 977, 978, 979, 980, 1273, 1274, 1275, 1276, 981, 982, 983, 984, 985, 986] (by decide +kernel)
set_option maxRecDepth 20000 in
theorem wsL_law0_in_r20 : ∀ w ∈ wsL_law0_r20, w ∈ lw_tbl := zmem_r [987, 990, 991, 992, 703, 1277, 1278, 1279, 1280, 1136, 1281, 1135, 993, 994, 995, 996, 997, 998, 999, 1282, 1283, 1284, 1285, 1001] (by decide +kernel)
set_option maxRecDepth 20000 in
theorem wsL_law0_in_r21 : ∀ w ∈ wsL_law0_r21, w ∈ lw_tbl := zmem_r [1002, 1003, 1004, 1005, 1006, 1007, 1008, 1009, 1010, 1286, 1287, 1288, 1289, 1011, 1012, 1013, 1014, 1015, 1016, 1017, 1018, 1019, 1020, 1021] (by decide +kernel)
set_option maxRecDepth 20000 in
theorem wsL_law0_in_r22 : ∀ w ∈ wsL_law0_r22, w ∈ lw_tbl := zmem_r [1022, 1023, 1290, 1291, 1292, 1293, 1294, 1296, 29, 1297, 1298, 1300, 30, 1301, 1024, 1025, 1026, 1027, 1028, 1029, 1030, 1302, 1303, 1304] (by decide +kernel)
set_option maxRecDepth 20000 in
theorem wsL_law0_in_r23 : ∀ w ∈ wsL_law0_r23, w ∈ lw_tbl := zmem_r [1305, 1032, 1033, 1034, 1035, 1036, 1037, 1038, 1306, 1307, 1308, 1309, 1039, 1040, 1041, 1042, 1043, 1044, 1045, 1310, 1311, 1312, 1313, 1046] (by decide +kernel)
set_option maxRecDepth 20000 in
theorem wsL_law0_in_r24 : ∀ w ∈ wsL_law0_r24, w ∈ lw_tbl := zmem_r [1047, 1048, 1049, 1050, 1051, 1052, 1314, 1315, 1316, 1317, 1053, 1054, 1055, 1056, 754, 755, 756, 1318, 1319, 1320, 1321, 1057, 1058, 1059] (by decide +kernel)
set_option maxRecDepth 20000 in
theorem wsL_law0_in_r25 : ∀ w ∈ wsL_law0_r25, w ∈ lw_tbl := zmem_r [1060, 762, 763, 764, 1322, 1323, 1324, 1325, 1061, 1062, 1063, 1064, 766, 767, 768, 684, 685, 686, 687, 688, 689, 690, 691, 692] (by decide +kernel)
set_option maxRecDepth 20000 in
theorem wsL_law0_in_r26 : ∀ w ∈ wsL_law0_r26, w ∈ lw_tbl := zmem_r [1326, 1327, 1328, 1329, 1330, 1332, 31, 1333, 1334, 1336, 32, 1337, 1065, 1066, 1067, 1068, 1069, 1070, 1071, 1072, 1073, 1074, 697, 698] (by decide +kernel)
set_option maxRecDepth 20000 in
theorem wsL_law0_in_r27 : ∀ w ∈ wsL_law0_r27, w ∈ lw_tbl := zmem_r [699, 1338, 1339, 1340, 1341, 1342, 1344, 33, 1345, 1346, 1348, 34, 1349, 1076, 1077, 1078, 1079, 1080, 1081, 1082, 1350, 1351, 1352, 1353] (by decide +kernel)
set_option maxRecDepth 20000 in
theorem wsL_law0_in_r28 : ∀ w ∈ wsL_law0_r28, w ∈ lw_tbl := zmem_r [1083, 1084, 1085, 1086, 1087, 1088, 1089, 667, 668, 669, 670, 671, 672, 673, 674, 675, 676, 633, 634, 635, 677, 678, 679, 604] (by decide +kernel)
set_option maxRecDepth 20000 in
theorem wsL_law0_in_r29 : ∀ w ∈ wsL_law0_r29, w ∈ lw_tbl := zmem_r [326, 327, 48, 328, 516, 329, 330, 331, 332, 333, 517, 605, 606, 607, 608, 609, 610, 611, 612, 613, 614, 65, 615, 616] (by decide +kernel)
set_option maxRecDepth 20000 in
theorem wsL_law0_in_r30 : ∀ w ∈ wsL_law0_r30, w ∈ lw_tbl := zmem_r [597, 598, 311, 599, 617, 618, 619, 593, 594, 595, 305, 306, 307, 596, 509, 510, 511, 319, 321, 323, 1354, 1355, 1356, 1357] (by decide +kernel)
set_option maxRecDepth 20000 in
theorem wsL_law0_in_r31 : ∀ w ∈ wsL_law0_r31, w ∈ lw_tbl := zmem_r [1358, 1360, 35, 1361, 1362, 1364, 36, 1365, 1366, 1367, 1369, 1370, 1371, 1372, 1373, 1090, 1091, 1092, 1093, 1094, 1095, 1096, 1374, 1375] (by decide +kernel)
set_option maxRecDepth 20000 in
theorem wsL_law0_in_r32 : ∀ w ∈ wsL_law0_r32, w ∈ lw_tbl := zmem_r [1376, 1377, 1098, 1099, 1100, 1101, 1102, 1103, 1104, 230, 231, 232, 233, 234, 235, 236, 237, 1464, 169, 238, 239, 240, 241, 66] (by decide +kernel)
set_option maxRecDepth 20000 in
theorem wsL_law0_in_r33 : ∀ w ∈ wsL_law0_r33, w ∈ lw_tbl := zmem_r [160, 158, 259, 1467, 0, 261, 262, 263, 1468, 1, 265, 266, 277, 267, 278, 279, 280, 281, 282, 283, 284, 285, 287, 294] (by decide +kernel)
set_option maxRecDepth 20000 in
theorem wsL_law0_in_r34 : ∀ w ∈ wsL_law0_r34, w ∈ lw_tbl := zmem_r [296, 297, 295, 298, 538, 539, 540, 541, 542, 543, 544, 545, 546, 472, 550, 551, 69, 573, 574, 575, 576, 577, 578, 579] (by decide +kernel)
set_option maxRecDepth 20000 in
theorem wsL_law0_in_r35 : ∀ w ∈ wsL_law0_r35, w ∈ lw_tbl := zmem_r [580, 581, 582, 583, 584, 1474, 585, 586, 587, 588, 589, 343, 1471, 2, 345, 346, 347, 348, 349, 350, 351, 352, 353, 354] (by decide +kernel)
set_option maxRecDepth 20000 in
theorem wsL_law0_in_r36 : ∀ w ∈ wsL_law0_r36, w ∈ lw_tbl := zmem_r [355, 356, 357, 358, 359, 360, 361, 316, 317, 318, 590, 591, 592, 601, 602, 603, 620, 621, 622, 623, 624, 625, 626, 627] (by decide +kernel)
set_option maxRecDepth 20000 in
theorem wsL_law0_in_r37 : ∀ w ∈ wsL_law0_r37, w ∈ lw_tbl := zmem_r [628, 1105, 394, 395, 396, 397, 398, 399, 400, 401, 402, 403, 404, 405, 159, 406, 408, 409, 407, 410, 411, 413, 412, 414] (by decide +kernel)
set_option maxRecDepth 20000 in
theorem wsL_law0_in_r38 : ∀ w ∈ wsL_law0_r38, w ∈ lw_tbl := zmem_r [415, 416, 417, 412, 418, 419, 420, 421, 422, 423, 424, 425, 426, 427, 428, 503, 504, 505, 506, 507, 508, 512, 513, 514] (by decide +kernel)
set_option maxRecDepth 20000 in
theorem wsL_law0_in_r39 : ∀ w ∈ wsL_law0_r39, w ∈ lw_tbl := zmem_r [515, 1378, 1379, 1380, 1381, 1383, 1385, 37, 1386, 1388, 1389, 1390, 249, 250, 251, 252, 1465, 253, 254, 255, 1466, 3, 257, 258] (by decide +kernel)
set_option maxRecDepth 20000 in
theorem wsL_law0_in_r40 : ∀ w ∈ wsL_law0_r40, w ∈ lw_tbl := zmem_r [299, 300, 301, 302, 303, 304, 308, 309, 310, 313, 314, 315, 325, 334, 1469, 4, 336, 337, 338, 1470, 5, 340, 341, 342] (by decide +kernel)
set_option maxRecDepth 20000 in
theorem wsL_law0_in_r41 : ∀ w ∈ wsL_law0_r41, w ∈ lw_tbl := zmem_r [362, 363, 364, 365, 366, 367, 1392, 1394, 38, 1397, 1395, 1396, 369, 370, 371, 372, 1472, 373, 374, 375, 376, 68, 377, 378] (by decide +kernel)
set_option maxRecDepth 20000 in
theorem wsL_law0_in_r42 : ∀ w ∈ wsL_law0_r42, w ∈ lw_tbl := zmem_r [379, 380, 381, 383, 385, 386, 387, 388, 389, 390, 391, 392, 1398, 1399, 1400, 1401, 1402, 1477, 1403, 1404, 1405, 1406, 70, 1407] (by decide +kernel)
set_option maxRecDepth 20000 in
theorem wsL_law0_in_r43 : ∀ w ∈ wsL_law0_r43, w ∈ lw_tbl := zmem_r [1408, 1409, 1410, 1411, 1412, 1413, 1414, 1415, 1416, 1417, 1418, 1419, 1420, 1421, 1422, 1423, 1424, 1427, 1106, 1107, 1108, 1109, 1110, 1111] (by decide +kernel)
set_option maxRecDepth 20000 in
theorem wsL_law0_in_r44 : ∀ w ∈ wsL_law0_r44, w ∈ lw_tbl := zmem_r [1112, 700, 701, 702, 1430, 1431, 1432, 1433, 1113, 1114, 1115, 1116, 1117, 1118, 1119, 1434, 1435, 1436, 1437, 208, 209, 210, 211, 1438] (by decide +kernel)
set_option maxRecDepth 20000 in
theorem wsL_law0_in_r45 : ∀ w ∈ wsL_law0_r45, w ∈ lw_tbl := zmem_r [1439, 1440, 1441, 1137, 1121, 1122, 1123, 1124, 711, 712, 713, 714, 716, 11, 717, 718, 720, 12, 721, 1442, 1443, 1444, 1445, 1446] (by decide +kernel)
set_option maxRecDepth 20000 in
theorem wsL_law0_in_r46 : ∀ w ∈ wsL_law0_r46, w ∈ lw_tbl := zmem_r [1448, 39, 1449, 1450, 212, 213, 214, 215, 644, 646, 7, 647, 648, 1475, 649, 650, 651, 652, 653, 1476, 654, 655, 656, 657] (by decide +kernel)
set_option maxRecDepth 20000 in
theorem wsL_law0_in_r47 : ∀ w ∈ wsL_law0_r47, w ∈ lw_tbl := zmem_r [658, 680, 682, 9, 683, 693, 695, 10, 696, 1451, 1452, 1453, 1454, 704, 705, 706, 707, 708, 709, 710, 732, 734, 13, 735] (by decide +kernel)
set_option maxRecDepth 20000 in
theorem wsL_law0_in_r48 : ∀ w ∈ wsL_law0_r48, w ∈ lw_tbl := zmem_r [753, 761, 765, 769, 1455, 1456, 1457, 1458, 1459, 1460, 1461, 1462, 1463] (by decide +kernel)
theorem zin_wsX10 : ∀ w ∈ wsX10, w ∈ lw_tbl := zmem_r [179, 181, 183, 185, 187, 189, 191, 193] (by decide +kernel)
theorem zin_wsX40 : ∀ w ∈ wsX40, w ∈ lw_tbl := zmem_r [1138, 1140, 1142, 1144, 1146] (by decide +kernel)
theorem zin_wsX20 : ∀ w ∈ wsX20, w ∈ lw_tbl := zmem_r [778, 780] (by decide +kernel)
theorem zin_wsJx4a65c0 : ∀ w ∈ wsJx4a65c0, w ∈ lw_tbl := zmem_r [102, 98, 100] (by decide +kernel)
theorem zin_wsX00 : ∀ w ∈ wsX00, w ∈ lw_tbl := zmem_r [124, 126, 128, 130, 132, 134] (by decide +kernel)
theorem zin_wsJ40 : ∀ w ∈ wsJ40, w ∈ lw_tbl := zmem_r [161, 163, 165, 167] (by decide +kernel)
theorem zin_wsX30 : ∀ w ∈ wsX30, w ∈ lw_tbl := zmem_r [1181, 1183, 1185] (by decide +kernel)
theorem zin_wsJ00 : ∀ w ∈ wsJ00, w ∈ lw_tbl := zmem_r [518, 520, 522, 524] (by decide +kernel)
theorem zin_wsJx7c7330 : ∀ w ∈ wsJx7c7330, w ∈ lw_tbl := zmem_r [531, 532, 533, 534, 535, 536] (by decide +kernel)
theorem zin_wsJx000600 : ∀ w ∈ wsJx000600, w ∈ lw_tbl := zmem_r [556, 557, 558, 559, 560, 571] (by decide +kernel)
theorem wsL_law_in0 : ∀ w ∈ wsL_law0, w ∈ lw_tbl := zmem_app (zmem_app (zmem_app (zmem_app (zmem_app (zmem_app (zmem_app (zmem_app (zmem_app (zmem_app (zmem_app (zmem_app wsL_law0_in_r1 (zmem_app wsL_law0_in_r2 (zmem_app wsL_law0_in_r3 (zmem_app wsL_law0_in_r4 (zmem_app wsL_law0_in_r5 (zmem_app wsL_law0_in_r6 (zmem_app wsL_law0_in_r7 (zmem_app wsL_law0_in_r8 (zmem_app wsL_law0_in_r9 (zmem_app wsL_law0_in_r10 (zmem_app wsL_law0_in_r11 (zmem_app wsL_law0_in_r12 (zmem_app wsL_law0_in_r13 (zmem_app wsL_law0_in_r14 (zmem_app wsL_law0_in_r15 (zmem_app wsL_law0_in_r16 (zmem_app wsL_law0_in_r17 (zmem_app wsL_law0_in_r18 (zmem_app wsL_law0_in_r19 (zmem_app wsL_law0_in_r20 (zmem_app wsL_law0_in_r21 (zmem_app wsL_law0_in_r22 (zmem_app wsL_law0_in_r23 (zmem_app wsL_law0_in_r24 (zmem_app wsL_law0_in_r25 (zmem_app wsL_law0_in_r26 (zmem_app wsL_law0_in_r27 (zmem_app wsL_law0_in_r28 (zmem_app wsL_law0_in_r29 (zmem_app wsL_law0_in_r30 (zmem_app wsL_law0_in_r31 (zmem_app wsL_law0_in_r32 (zmem_app wsL_law0_in_r33 (zmem_app wsL_law0_in_r34 (zmem_app wsL_law0_in_r35 (zmem_app wsL_law0_in_r36 (zmem_app wsL_law0_in_r37 (zmem_app wsL_law0_in_r38 (zmem_app wsL_law0_in_r39 (zmem_app wsL_law0_in_r40 (zmem_app wsL_law0_in_r41 (zmem_app wsL_law0_in_r42 (zmem_app wsL_law0_in_r43 (zmem_app wsL_law0_in_r44 (zmem_app wsL_law0_in_r45 (zmem_app wsL_law0_in_r46 (zmem_app wsL_law0_in_r47 (wsL_law0_in_r48)))))))))))))))))))))))))))))))))))))))))))))))) zin_wsX10) zin_wsX40) zin_wsX20) zin_wsJx4a65c0) zin_wsX00) zin_wsJ40) zin_wsX30) zin_wsJ00) zin_wsJx7c7330) zin_wsJx000600) (fun _ h => absurd h List.not_mem_nil)
set_option maxRecDepth 20000 in
theorem wsL_law_x0 : ∀ w ∈ (vx_atMz "java/lang/ArrayIndexOutOfBoundsException" ["java/lang/IndexOutOfBoundsException", "java/lang/RuntimeException", "java/lang/Exception"]).filter goodWord, w ∈ lw_tbl := zmem_r [52, 451, 460, 466, 469, 471, 452, 453, 77, 78, 454, 459, 467, 492, 441, 493, 443, 494, 445, 455, 457, 447, 488, 489, 491, 447, 570, 528, 528, 529, 530, 482, 482, 483, 484, 485, 485, 486, 487, 488, 48, 398, 170, 518, 520, 519, 521, 69, 551, 555, 462, 556, 557, 558, 559, 450, 449, 560] (by decide +kernel)
set_option maxRecDepth 20000 in
theorem wsL_law_x1 : ∀ w ∈ (vx_atS RX1 52 "java/lang/IllegalArgumentException" ["java/lang/RuntimeException", "java/lang/Exception"]).filter goodWord, w ∈ lw_tbl := zmem_r [52, 451, 460, 466, 469, 471, 452, 453, 77, 78, 454, 459, 467, 492, 441, 493, 443, 494, 445, 455, 457, 447, 488, 489, 491, 447, 479, 480, 481, 482, 482, 483, 484, 485, 485, 486, 487, 488, 731, 430, 438, 439, 440, 442, 444, 446, 450, 449, 448] (by decide +kernel)
set_option maxRecDepth 20000 in
theorem wsL_law_x2 : ∀ w ∈ (vx_atS RX1 77 "java/lang/IllegalStateException" ["java/lang/RuntimeException", "java/lang/Exception"]).filter goodWord, w ∈ lw_tbl := zmem_r [52, 451, 460, 466, 469, 471, 452, 453, 77, 78, 454, 459, 467, 492, 441, 493, 443, 494, 445, 455, 457, 447, 488, 489, 491, 447, 812, 813, 814, 482, 482, 483, 484, 485, 485, 486, 487, 488, 811, 802, 804, 463, 805, 806, 807, 808, 450, 449, 809] (by decide +kernel)
set_option maxRecDepth 20000 in
theorem wsL_law_x3 : ∀ w ∈ (vx_atS RX1 265 "java/lang/IndexOutOfBoundsException" ["java/lang/RuntimeException", "java/lang/Exception"]).filter goodWord, w ∈ lw_tbl := zmem_r [52, 451, 460, 466, 469, 471, 452, 453, 77, 78, 454, 459, 467, 492, 441, 493, 443, 494, 445, 455, 457, 447, 488, 489, 491, 447, 528, 529, 530, 482, 482, 483, 484, 485, 485, 486, 487, 488, 750, 741, 743, 464, 744, 745, 746, 747, 450, 449, 748] (by decide +kernel)
theorem wsL_law_in : ∀ w ∈ wsL_law, w ∈ lw_tbl := fun w h => (List.mem_append.mp h).elim (fun h => (List.mem_append.mp h).elim (fun h => (List.mem_append.mp h).elim (fun h => (List.mem_append.mp h).elim (fun h => wsL_law_in0 w h) (fun h => wsL_law_x0 w h)) (fun h => wsL_law_x1 w h)) (fun h => wsL_law_x2 w h)) (fun h => wsL_law_x3 w h)
