theorem zmem_r {big ws : List Cond} (ps : List Nat) (hp : ws = ps.filterMap (fun i => big[i]?)) : ∀ w ∈ ws, w ∈ big := by
  intro w hw
  rw [hp] at hw
  obtain ⟨i, -, hi⟩ := List.mem_filterMap.mp hw
  exact List.mem_of_getElem? hi
theorem zmem_app {big a b : List Cond} (ha : ∀ w ∈ a, w ∈ big) (hb : ∀ w ∈ b, w ∈ big) : ∀ w ∈ a ++ b, w ∈ big := fun w h => (List.mem_append.mp h).elim (ha w) (hb w)
set_option maxRecDepth 20000 in
theorem wsL_law0_in_r1 : ∀ w ∈ wsL_law0_r1, w ∈ lw_tbl := zmem_r [73, 74, 43, 1127, 1128, 52, 772, 773, 53, 75, 76, 77, 78, 79, 80, 81, 82, 46, 173, 174, 175, 176, 107, 108] (by decide +kernel)
set_option maxRecDepth 20000 in
theorem wsL_law0_in_r2 : ∀ w ∈ wsL_law0_r2, w ∈ lw_tbl := zmem_r [47, 177, 178, 140, 141, 49, 179, 180, 83, 84, 85, 93, 95, 86, 87, 45, 88, 97, 89, 90, 44, 91, 92, 109] (by decide +kernel)
set_option maxRecDepth 20000 in
theorem wsL_law0_in_r3 : ∀ w ∈ wsL_law0_r3, w ∈ lw_tbl := zmem_r [110, 111, 112, 115, 117, 139, 119, 121, 113, 123, 142, 143, 144, 145, 146, 48, 147, 148, 149, 172, 158, 159, 151, 152] (by decide +kernel)
set_option maxRecDepth 20000 in
theorem wsL_law0_in_r4 : ∀ w ∈ wsL_law0_r4, w ∈ lw_tbl := zmem_r [51, 153, 154, 155, 156, 157, 1129, 1130, 1131, 1132, 1133, 1136, 1134, 775, 776, 777, 785, 786, 42, 787, 788, 789, 790, 791] (by decide +kernel)
set_option maxRecDepth 20000 in
theorem wsL_law0_in_r5 : ∀ w ∈ wsL_law0_r5, w ∈ lw_tbl := zmem_r [792, 793, 731, 57, 795, 796, 797, 799, 801, 17, 802, 803, 58, 202, 203, 204, 205, 96, 819, 821, 18, 822, 823, 824] (by decide +kernel)
set_option maxRecDepth 20000 in
theorem wsL_law0_in_r6 : ∀ w ∈ wsL_law0_r6, w ∈ lw_tbl := zmem_r [825, 826, 98, 99, 827, 829, 19, 830, 831, 833, 20, 834, 835, 837, 21, 838, 866, 273, 60, 274, 867, 839, 270, 59] (by decide +kernel)
set_option maxRecDepth 20000 in
theorem wsL_law0_in_r7 : ∀ w ∈ wsL_law0_r7, w ∈ lw_tbl := zmem_r [271, 272, 275, 276, 277, 278, 840, 841, 61, 842, 843, 1497, 844, 859, 860, 861, 862, 863, 865, 290, 291, 292, 293, 295] (by decide +kernel)
set_option maxRecDepth 20000 in
theorem wsL_law0_in_r8 : ∀ w ∈ wsL_law0_r8, w ∈ lw_tbl := zmem_r [294, 62, 1151, 1152, 1153, 1154, 1167, 1168, 63, 1155, 1156, 1157, 1158, 1160, 24, 1161, 1135, 1162, 1164, 25, 1165, 1166, 1169, 1170] (by decide +kernel)
set_option maxRecDepth 20000 in
theorem wsL_law0_in_r9 : ∀ w ∈ wsL_law0_r9, w ∈ lw_tbl := zmem_r [1171, 1172, 1177, 1179, 1181, 1173, 1174, 1175, 1176, 1190, 868, 869, 870, 871, 872, 873, 874, 875, 876, 877, 878, 880, 881, 882] (by decide +kernel)
set_option maxRecDepth 20000 in
theorem wsL_law0_in_r10 : ∀ w ∈ wsL_law0_r10, w ∈ lw_tbl := zmem_r [883, 222, 223, 64, 224, 225, 226, 65, 227, 884, 886, 22, 887, 888, 1191, 1192, 1193, 1194, 1195, 1196, 198, 199, 200, 201] (by decide +kernel)
set_option maxRecDepth 20000 in
theorem wsL_law0_in_r11 : ∀ w ∈ wsL_law0_r11, w ∈ lw_tbl := zmem_r [206, 207, 208, 209, 1197, 1198, 1199, 1200, 1201, 889, 890, 891, 892, 893, 894, 895, 896, 738, 740, 16, 741, 742, 66, 107] (by decide +kernel)
set_option maxRecDepth 20000 in
theorem wsL_law0_in_r12 : ∀ w ∈ wsL_law0_r12, w ∈ lw_tbl := zmem_r [218, 219, 220, 221, 228, 229, 230, 231, 759, 760, 761, 897, 898, 899, 901, 902, 903, 904, 906, 907, 908, 909, 60, 910] (by decide +kernel)
set_option maxRecDepth 20000 in
theorem wsL_law0_in_r13 : ∀ w ∈ wsL_law0_r13, w ∈ lw_tbl := zmem_r [665, 667, 10, 668, 1202, 1203, 1204, 1205, 1167, 1206, 1208, 26, 1209, 1210, 1212, 27, 1213, 1214, 1215, 1216, 1217, 1218, 1219, 1220] (by decide +kernel)
set_option maxRecDepth 20000 in
theorem wsL_law0_in_r14 : ∀ w ∈ wsL_law0_r14, w ∈ lw_tbl := zmem_r [1221, 1222, 1223, 1224, 1225, 1227, 1228, 1229, 911, 912, 913, 914, 915, 916, 917, 919, 920, 921, 923, 924, 925, 926, 1230, 1231] (by decide +kernel)
set_option maxRecDepth 20000 in
theorem wsL_law0_in_r15 : ∀ w ∈ wsL_law0_r15, w ∈ lw_tbl := zmem_r [1232, 1233, 1178, 1234, 927, 928, 929, 930, 931, 932, 933, 934, 935, 936, 937, 1235, 1236, 1237, 1238, 938, 939, 940, 941, 942] (by decide +kernel)
set_option maxRecDepth 20000 in
theorem wsL_law0_in_r16 : ∀ w ∈ wsL_law0_r16, w ∈ lw_tbl := zmem_r [943, 944, 730, 945, 946, 947, 949, 950, 951, 724, 725, 726, 727, 728, 729, 952, 954, 23, 955, 661, 662, 663, 664, 1239] (by decide +kernel)
set_option maxRecDepth 20000 in
theorem wsL_law0_in_r17 : ∀ w ∈ wsL_law0_r17, w ∈ lw_tbl := zmem_r [1240, 1241, 1242, 1243, 1245, 28, 1246, 1247, 1249, 29, 1250, 1180, 1182, 1251, 1252, 1253, 1254, 1255, 1256, 1257, 1258, 1260, 30, 1261] (by decide +kernel)
set_option maxRecDepth 20000 in
theorem wsL_law0_in_r18 : ∀ w ∈ wsL_law0_r18, w ∈ lw_tbl := zmem_r [1266, 1262, 1263, 1264, 1265, 957, 958, 959, 960, 961, 962, 963, 964, 965, 966, 967, 1267, 1268, 1269, 1270, 969, 970, 971, 972] (by decide +kernel)
set_option maxRecDepth 20000 in
theorem wsL_law0_in_r19 : ∀ w ∈ wsL_law0_r19, w ∈ lw_tbl := zmem_r [973, 974, 975, 1271, 1272, 1273, 1274, 976, 977, 978, 979, 980, 981, 982, 1275, 1276, 1277, 1278, 983, 984, 985, 986, 987, 988] (by decide +kernel)
set_option maxRecDepth 20000 in
theorem wsL_law0_in_r20 : ∀ w ∈ wsL_law0_r20, w ∈ lw_tbl := zmem_r [989, 992, 993, 994, 705, 1279, 1280, 1281, 1282, 1138, 1283, 1137, 995, 996, 997, 998, 999, 1000, 1001, 1284, 1285, 1286, 1287, 1003] (by decide +kernel)
set_option maxRecDepth 20000 in
theorem wsL_law0_in_r21 : ∀ w ∈ wsL_law0_r21, w ∈ lw_tbl := zmem_r [1004, 1005, 1006, 1007, 1008, 1009, 1010, 1011, 1012, 1288, 1289, 1290, 1291, 1013, 1014, 1015, 1016, 1017, 1018, 1019, 1020, 1021, 1022, 1023] (by decide +kernel)
set_option maxRecDepth 20000 in
theorem wsL_law0_in_r22 : ∀ w ∈ wsL_law0_r22, w ∈ lw_tbl := zmem_r [1024, 1025, 1292, 1293, 1294, 1295, 1296, 1298, 31, 1299, 1300, 1302, 32, 1303, 1026, 1027, 1028, 1029, 1030, 1031, 1032, 1304, 1305, 1306] (by decide +kernel)
set_option maxRecDepth 20000 in
theorem wsL_law0_in_r23 : ∀ w ∈ wsL_law0_r23, w ∈ lw_tbl := zmem_r [1307, 1034, 1035, 1036, 1037, 1038, 1039, 1040, 1308, 1309, 1310, 1311, 1041, 1042, 1043, 1044, 1045, 1046, 1047, 1312, 1313, 1314, 1315, 1048] (by decide +kernel)
set_option maxRecDepth 20000 in
theorem wsL_law0_in_r24 : ∀ w ∈ wsL_law0_r24, w ∈ lw_tbl := zmem_r [1049, 1050, 1051, 1052, 1053, 1054, 1316, 1317, 1318, 1319, 1055, 1056, 1057, 1058, 756, 757, 758, 1320, 1321, 1322, 1323, 1059, 1060, 1061] (by decide +kernel)
set_option maxRecDepth 20000 in
theorem wsL_law0_in_r25 : ∀ w ∈ wsL_law0_r25, w ∈ lw_tbl := zmem_r [1062, 764, 765, 766, 1324, 1325, 1326, 1327, 1063, 1064, 1065, 1066, 768, 769, 770, 686, 687, 688, 689, 690, 691, 692, 693, 694] (by decide +kernel)
set_option maxRecDepth 20000 in
theorem wsL_law0_in_r26 : ∀ w ∈ wsL_law0_r26, w ∈ lw_tbl := zmem_r [1328, 1329, 1330, 1331, 1332, 1334, 33, 1335, 1336, 1338, 34, 1339, 1067, 1068, 1069, 1070, 1071, 1072, 1073, 1074, 1075, 1076, 699, 700] (by decide +kernel)
set_option maxRecDepth 20000 in
theorem wsL_law0_in_r27 : ∀ w ∈ wsL_law0_r27, w ∈ lw_tbl := zmem_r [701, 1340, 1341, 1342, 1343, 1344, 1346, 35, 1347, 1348, 1350, 36, 1351, 1078, 1079, 1080, 1081, 1082, 1083, 1084, 1352, 1353, 1354, 1355] (by decide +kernel)
set_option maxRecDepth 20000 in
theorem wsL_law0_in_r28 : ∀ w ∈ wsL_law0_r28, w ∈ lw_tbl := zmem_r [1085, 1086, 1087, 1088, 1089, 1090, 1091, 669, 670, 671, 672, 673, 674, 675, 676, 677, 678, 635, 636, 637, 679, 680, 681, 606] (by decide +kernel)
set_option maxRecDepth 20000 in
theorem wsL_law0_in_r29 : ∀ w ∈ wsL_law0_r29, w ∈ lw_tbl := zmem_r [328, 329, 50, 330, 518, 331, 332, 333, 334, 335, 519, 607, 608, 609, 610, 611, 612, 613, 614, 615, 616, 67, 617, 618] (by decide +kernel)
set_option maxRecDepth 20000 in
theorem wsL_law0_in_r30 : ∀ w ∈ wsL_law0_r30, w ∈ lw_tbl := zmem_r [599, 600, 313, 601, 619, 620, 621, 595, 596, 597, 307, 308, 309, 598, 511, 512, 513, 321, 323, 325, 1356, 1357, 1358, 1359] (by decide +kernel)
set_option maxRecDepth 20000 in
theorem wsL_law0_in_r31 : ∀ w ∈ wsL_law0_r31, w ∈ lw_tbl := zmem_r [1360, 1362, 37, 1363, 1364, 1366, 38, 1367, 1368, 1369, 1371, 1372, 1373, 1374, 1375, 1092, 1093, 1094, 1095, 1096, 1097, 1098, 1376, 1377] (by decide +kernel)
set_option maxRecDepth 20000 in
theorem wsL_law0_in_r32 : ∀ w ∈ wsL_law0_r32, w ∈ lw_tbl := zmem_r [1378, 1379, 1100, 1101, 1102, 1103, 1104, 1105, 1106, 232, 233, 234, 235, 236, 237, 238, 239, 1466, 171, 240, 241, 242, 243, 68] (by decide +kernel)
set_option maxRecDepth 20000 in
theorem wsL_law0_in_r33 : ∀ w ∈ wsL_law0_r33, w ∈ lw_tbl := zmem_r [162, 160, 261, 1469, 2, 263, 264, 265, 1470, 3, 267, 268, 279, 269, 280, 281, 282, 283, 284, 285, 286, 287, 289, 296] (by decide +kernel)
set_option maxRecDepth 20000 in
theorem wsL_law0_in_r34 : ∀ w ∈ wsL_law0_r34, w ∈ lw_tbl := zmem_r [298, 299, 297, 300, 540, 541, 542, 543, 544, 545, 546, 547, 548, 474, 552, 553, 71, 575, 576, 577, 578, 579, 580, 581] (by decide +kernel)
set_option maxRecDepth 20000 in
theorem wsL_law0_in_r35 : ∀ w ∈ wsL_law0_r35, w ∈ lw_tbl := zmem_r [582, 583, 584, 585, 586, 1476, 587, 588, 589, 590, 591, 345, 1473, 4, 347, 348, 349, 350, 351, 352, 353, 354, 355, 356] (by decide +kernel)
set_option maxRecDepth 20000 in
theorem wsL_law0_in_r36 : ∀ w ∈ wsL_law0_r36, w ∈ lw_tbl := zmem_r [357, 358, 359, 360, 361, 362, 363, 318, 319, 320, 592, 593, 594, 603, 604, 605, 622, 623, 624, 625, 626, 627, 628, 629] (by decide +kernel)
set_option maxRecDepth 20000 in
theorem wsL_law0_in_r37 : ∀ w ∈ wsL_law0_r37, w ∈ lw_tbl := zmem_r [630, 1107, 396, 397, 398, 399, 400, 401, 402, 403, 404, 405, 406, 407, 161, 408, 410, 411, 409, 412, 413, 415, 414, 416] (by decide +kernel)
set_option maxRecDepth 20000 in
theorem wsL_law0_in_r38 : ∀ w ∈ wsL_law0_r38, w ∈ lw_tbl := zmem_r [417, 418, 419, 414, 420, 421, 422, 423, 424, 425, 426, 427, 428, 429, 430, 505, 506, 507, 508, 509, 510, 514, 515, 516] (by decide +kernel)
set_option maxRecDepth 20000 in
theorem wsL_law0_in_r39 : ∀ w ∈ wsL_law0_r39, w ∈ lw_tbl := zmem_r [517, 1380, 1381, 1382, 1383, 1385, 1387, 39, 1388, 1390, 1391, 1392, 251, 252, 253, 254, 1467, 255, 256, 257, 1468, 5, 259, 260] (by decide +kernel)
set_option maxRecDepth 20000 in
theorem wsL_law0_in_r40 : ∀ w ∈ wsL_law0_r40, w ∈ lw_tbl := zmem_r [301, 302, 303, 304, 305, 306, 310, 311, 312, 315, 316, 317, 327, 336, 1471, 6, 338, 339, 340, 1472, 7, 342, 343, 344] (by decide +kernel)
set_option maxRecDepth 20000 in
theorem wsL_law0_in_r41 : ∀ w ∈ wsL_law0_r41, w ∈ lw_tbl := zmem_r [364, 365, 366, 367, 368, 369, 1394, 1396, 40, 1399, 1397, 1398, 371, 372, 373, 374, 1474, 375, 376, 377, 378, 70, 379, 380] (by decide +kernel)
set_option maxRecDepth 20000 in
theorem wsL_law0_in_r42 : ∀ w ∈ wsL_law0_r42, w ∈ lw_tbl := zmem_r [381, 382, 383, 385, 387, 388, 389, 390, 391, 392, 393, 394, 1400, 1401, 1402, 1403, 1404, 1479, 1405, 1406, 1407, 1408, 72, 1409] (by decide +kernel)
set_option maxRecDepth 20000 in
theorem wsL_law0_in_r43 : ∀ w ∈ wsL_law0_r43, w ∈ lw_tbl := zmem_r [1410, 1411, 1412, 1413, 1414, 1415, 1416, 1417, 1418, 1419, 1420, 1421, 1422, 1423, 1424, 1425, 1426, 1429, 1108, 1109, 1110, 1111, 1112, 1113] (by decide +kernel)
set_option maxRecDepth 20000 in
theorem wsL_law0_in_r44 : ∀ w ∈ wsL_law0_r44, w ∈ lw_tbl := zmem_r [1114, 702, 703, 704, 1432, 1433, 1434, 1435, 1115, 1116, 1117, 1118, 1119, 1120, 1121, 1436, 1437, 1438, 1439, 210, 211, 212, 213, 1440] (by decide +kernel)
set_option maxRecDepth 20000 in
theorem wsL_law0_in_r45 : ∀ w ∈ wsL_law0_r45, w ∈ lw_tbl := zmem_r [1441, 1442, 1443, 1139, 1123, 1124, 1125, 1126, 713, 714, 715, 716, 718, 13, 719, 720, 722, 14, 723, 1444, 1445, 1446, 1447, 1448] (by decide +kernel)
set_option maxRecDepth 20000 in
theorem wsL_law0_in_r46 : ∀ w ∈ wsL_law0_r46, w ∈ lw_tbl := zmem_r [1450, 41, 1451, 1452, 214, 215, 216, 217, 646, 648, 9, 649, 650, 1477, 651, 652, 653, 654, 655, 1478, 656, 657, 658, 659] (by decide +kernel)
set_option maxRecDepth 20000 in
theorem wsL_law0_in_r47 : ∀ w ∈ wsL_law0_r47, w ∈ lw_tbl := zmem_r [660, 682, 684, 11, 685, 695, 697, 12, 698, 1453, 1454, 1455, 1456, 706, 707, 708, 709, 710, 711, 712, 734, 736, 15, 737] (by decide +kernel)
set_option maxRecDepth 20000 in
theorem wsL_law0_in_r48 : ∀ w ∈ wsL_law0_r48, w ∈ lw_tbl := zmem_r [755, 763, 767, 771, 1457, 1458, 1459, 1460, 1461, 1462, 1463, 1464, 1465] (by decide +kernel)
theorem zin_wsX10 : ∀ w ∈ wsX10, w ∈ lw_tbl := zmem_r [181, 183, 185, 187, 189, 191, 193, 195] (by decide +kernel)
theorem zin_wsX40 : ∀ w ∈ wsX40, w ∈ lw_tbl := zmem_r [1140, 1142, 1144, 1146, 1148] (by decide +kernel)
theorem zin_wsX20 : ∀ w ∈ wsX20, w ∈ lw_tbl := zmem_r [780, 782] (by decide +kernel)
theorem zin_wsJx4a65c0 : ∀ w ∈ wsJx4a65c0, w ∈ lw_tbl := zmem_r [104, 100, 102] (by decide +kernel)
theorem zin_wsX00 : ∀ w ∈ wsX00, w ∈ lw_tbl := zmem_r [126, 128, 130, 132, 134, 136] (by decide +kernel)
theorem zin_wsJ40 : ∀ w ∈ wsJ40, w ∈ lw_tbl := zmem_r [163, 165, 167, 169] (by decide +kernel)
theorem zin_wsX30 : ∀ w ∈ wsX30, w ∈ lw_tbl := zmem_r [1183, 1185, 1187] (by decide +kernel)
theorem zin_wsJ00 : ∀ w ∈ wsJ00, w ∈ lw_tbl := zmem_r [520, 522, 524, 526] (by decide +kernel)
theorem zin_wsJx7c7330 : ∀ w ∈ wsJx7c7330, w ∈ lw_tbl := zmem_r [533, 534, 535, 536, 537, 538] (by decide +kernel)
theorem zin_wsJx000600 : ∀ w ∈ wsJx000600, w ∈ lw_tbl := zmem_r [558, 559, 560, 561, 562, 573] (by decide +kernel)
theorem wsL_law_in0 : ∀ w ∈ wsL_law0, w ∈ lw_tbl := zmem_app (zmem_app (zmem_app (zmem_app (zmem_app (zmem_app (zmem_app (zmem_app (zmem_app (zmem_app (zmem_app (zmem_app wsL_law0_in_r1 (zmem_app wsL_law0_in_r2 (zmem_app wsL_law0_in_r3 (zmem_app wsL_law0_in_r4 (zmem_app wsL_law0_in_r5 (zmem_app wsL_law0_in_r6 (zmem_app wsL_law0_in_r7 (zmem_app wsL_law0_in_r8 (zmem_app wsL_law0_in_r9 (zmem_app wsL_law0_in_r10 (zmem_app wsL_law0_in_r11 (zmem_app wsL_law0_in_r12 (zmem_app wsL_law0_in_r13 (zmem_app wsL_law0_in_r14 (zmem_app wsL_law0_in_r15 (zmem_app wsL_law0_in_r16 (zmem_app wsL_law0_in_r17 (zmem_app wsL_law0_in_r18 (zmem_app wsL_law0_in_r19 (zmem_app wsL_law0_in_r20 (zmem_app wsL_law0_in_r21 (zmem_app wsL_law0_in_r22 (zmem_app wsL_law0_in_r23 (zmem_app wsL_law0_in_r24 (zmem_app wsL_law0_in_r25 (zmem_app wsL_law0_in_r26 (zmem_app wsL_law0_in_r27 (zmem_app wsL_law0_in_r28 (zmem_app wsL_law0_in_r29 (zmem_app wsL_law0_in_r30 (zmem_app wsL_law0_in_r31 (zmem_app wsL_law0_in_r32 (zmem_app wsL_law0_in_r33 (zmem_app wsL_law0_in_r34 (zmem_app wsL_law0_in_r35 (zmem_app wsL_law0_in_r36 (zmem_app wsL_law0_in_r37 (zmem_app wsL_law0_in_r38 (zmem_app wsL_law0_in_r39 (zmem_app wsL_law0_in_r40 (zmem_app wsL_law0_in_r41 (zmem_app wsL_law0_in_r42 (zmem_app wsL_law0_in_r43 (zmem_app wsL_law0_in_r44 (zmem_app wsL_law0_in_r45 (zmem_app wsL_law0_in_r46 (zmem_app wsL_law0_in_r47 (wsL_law0_in_r48)))))))))))))))))))))))))))))))))))))))))))))))) zin_wsX10) zin_wsX40) zin_wsX20) zin_wsJx4a65c0) zin_wsX00) zin_wsJ40) zin_wsX30) zin_wsJ00) zin_wsJx7c7330) zin_wsJx000600) (fun _ h => absurd h List.not_mem_nil)
set_option maxRecDepth 20000 in
theorem wsL_law_x0 : ∀ w ∈ (vx_atM "java/lang/ArrayIndexOutOfBoundsException" ["java/lang/IndexOutOfBoundsException", "java/lang/RuntimeException", "java/lang/Exception"]).filter goodWord, w ∈ lw_tbl := zmem_r [54, 453, 462, 468, 471, 473, 454, 455, 79, 80, 456, 461, 469, 494, 443, 495, 445, 496, 447, 457, 459, 449, 490, 491, 493, 449, 0, 1, 572, 530, 530, 531, 532, 484, 484, 485, 486, 487, 487, 488, 489, 490, 50, 400, 172, 520, 522, 521, 523, 71, 553, 557, 464, 558, 559, 560, 561, 452, 451, 562] (by decide +kernel)
set_option maxRecDepth 20000 in
theorem wsL_law_x1 : ∀ w ∈ (vx_atS RX1 52 "java/lang/IllegalArgumentException" ["java/lang/RuntimeException", "java/lang/Exception"]).filter goodWord, w ∈ lw_tbl := zmem_r [54, 453, 462, 468, 471, 473, 454, 455, 79, 80, 456, 461, 469, 494, 443, 495, 445, 496, 447, 457, 459, 449, 490, 491, 493, 449, 481, 482, 483, 484, 484, 485, 486, 487, 487, 488, 489, 490, 733, 432, 440, 441, 442, 444, 446, 448, 452, 451, 450] (by decide +kernel)
set_option maxRecDepth 20000 in
theorem wsL_law_x2 : ∀ w ∈ (vx_atS RX1 77 "java/lang/IllegalStateException" ["java/lang/RuntimeException", "java/lang/Exception"]).filter goodWord, w ∈ lw_tbl := zmem_r [54, 453, 462, 468, 471, 473, 454, 455, 79, 80, 456, 461, 469, 494, 443, 495, 445, 496, 447, 457, 459, 449, 490, 491, 493, 449, 814, 815, 816, 484, 484, 485, 486, 487, 487, 488, 489, 490, 813, 804, 806, 465, 807, 808, 809, 810, 452, 451, 811] (by decide +kernel)
set_option maxRecDepth 20000 in
theorem wsL_law_x3 : ∀ w ∈ (vx_atS RX1 265 "java/lang/IndexOutOfBoundsException" ["java/lang/RuntimeException", "java/lang/Exception"]).filter goodWord, w ∈ lw_tbl := zmem_r [54, 453, 462, 468, 471, 473, 454, 455, 79, 80, 456, 461, 469, 494, 443, 495, 445, 496, 447, 457, 459, 449, 490, 491, 493, 449, 530, 531, 532, 484, 484, 485, 486, 487, 487, 488, 489, 490, 752, 743, 745, 466, 746, 747, 748, 749, 452, 451, 750] (by decide +kernel)
theorem wsL_law_in : ∀ w ∈ wsL_law, w ∈ lw_tbl := fun w h => (List.mem_append.mp h).elim (fun h => (List.mem_append.mp h).elim (fun h => (List.mem_append.mp h).elim (fun h => (List.mem_append.mp h).elim (fun h => wsL_law_in0 w h) (fun h => wsL_law_x0 w h)) (fun h => wsL_law_x1 w h)) (fun h => wsL_law_x2 w h)) (fun h => wsL_law_x3 w h)
