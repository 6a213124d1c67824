/-! printed: the law's calls -/
set_option maxRecDepth 20000 in
theorem ggL_law_X12_circles : GoodIn wsL_lawB wsX12_circles := goodIn_r _ [1053, 15, 774, 1054, 1055, 1056, 57, 1057, 1058, 1059, 1060, 1061, 1062, 1063, 1064, 1065, 1066, 795, 796, 797, 427, 420, 421, 422, 73, 1404, 1405, 1406, 1407, 1408, 1409, 1410, 1411, 1412, 1413, 1414, 1442, 1443, 1444, 1445, 1446, 1447, 1448, 1449, 1450, 1451, 1480, 1481] (by decide +kernel) (by decide +kernel)
set_option maxRecDepth 20000 in
theorem gL_law_X12_circles : GoodIn wsL_lawB (wsV RL 127 RX12 yX12_circles wsX12_circles) := goodIn_app (goodIn_of _ (by decide +kernel)) ggL_law_X12_circles
set_option maxRecDepth 20000 in
theorem ggL_law_X13_circles : GoodIn wsL_lawB wsX13_circles := goodIn_r _ [1070, 818, 819, 820, 5, 821, 451, 452, 453, 454, 142, 1415, 1416, 1417, 1418, 1419, 1420, 1421, 1422, 1423, 1424, 1425, 1426, 1427, 1428, 1429, 1430, 1431, 1432, 1433, 1434, 1435, 1436, 1437, 1438, 1439, 1440, 1441] (by decide +kernel) (by decide +kernel)
set_option maxRecDepth 20000 in
theorem gL_law_X13_circles : GoodIn wsL_lawB (wsV RL 130 RX13 yX13_circles wsX13_circles) := goodIn_app (goodIn_of _ (by decide +kernel)) ggL_law_X13_circles
set_option maxRecDepth 20000 in
theorem hL_X12_wouldGrow_c : GoodIn wsL_lawB [Cond.code yX12_wouldGrow cX12_wouldGrow 3 (some .int)] := goodIn_r _ [1074] (by decide +kernel) (by decide +kernel)
set_option maxRecDepth 20000 in
theorem hL_X12_wouldGrow_wsX12_wouldGrow_r1 : GoodIn wsL_lawB wsX12_wouldGrow_r1 := goodIn_r _ [16, 15, 242, 243, 244, 14, 245, 49, 246, 247, 248, 249, 50, 54, 58, 62, 185, 186, 187, 188, 250, 251, 252, 53] (by decide +kernel) (by decide +kernel)
set_option maxRecDepth 20000 in
theorem hL_X12_wouldGrow_wsX12_wouldGrow_r2 : GoodIn wsL_lawB wsX12_wouldGrow_r2 := goodIn_r _ [253, 67, 254, 68, 69, 193, 194, 255, 256, 257, 57, 258, 73, 259, 74, 260, 261, 262, 61, 263, 78, 264, 79, 80] (by decide +kernel) (by decide +kernel)
set_option maxRecDepth 20000 in
theorem hL_X12_wouldGrow_wsX12_wouldGrow_r3 : GoodIn wsL_lawB wsX12_wouldGrow_r3 := goodIn_r _ [204, 548, 549, 550, 551, 63, 552, 553, 554, 555, 556, 557, 558, 559, 560, 561, 562, 199, 82, 83, 84, 177, 178, 179] (by decide +kernel) (by decide +kernel)
set_option maxRecDepth 20000 in
theorem hL_X12_wouldGrow_wsX12_wouldGrow_r4 : GoodIn wsL_lawB wsX12_wouldGrow_r4 := goodIn_r _ [180] (by decide +kernel) (by decide +kernel)
set_option maxRecDepth 20000 in
theorem hL_X12_wouldGrow_wsX120 : GoodIn wsL_lawB wsX120 := goodIn_r _ [1404, 1405, 1406, 1407, 1408, 1409, 1410, 1411, 1412, 1413, 1414] (by decide +kernel) (by decide +kernel)
set_option maxRecDepth 20000 in
theorem hL_X12_wouldGrow_wsX60 : GoodIn wsL_lawB wsX60 := goodIn_r _ [1442, 1443, 1444, 1445, 1446, 1447, 1448, 1449, 1450, 1451] (by decide +kernel) (by decide +kernel)
set_option maxRecDepth 20000 in
theorem hL_X12_wouldGrow_wsX70 : GoodIn wsL_lawB wsX70 := goodIn_r _ [1475, 1476, 1477, 1478, 1479] (by decide +kernel) (by decide +kernel)
set_option maxRecDepth 20000 in
theorem hL_X12_wouldGrow_wsX40 : GoodIn wsL_lawB wsX40 := goodIn_r _ [1480, 1481] (by decide +kernel) (by decide +kernel)
set_option maxRecDepth 20000 in
theorem hL_X12_wouldGrow_wsX10 : GoodIn wsL_lawB wsX10 := goodIn_r _ [1482, 1483, 1484, 1485] (by decide +kernel) (by decide +kernel)
set_option maxRecDepth 20000 in
theorem ggL_law_X12_wouldGrow : GoodIn wsL_lawB wsX12_wouldGrow := goodIn_cons hL_X12_wouldGrow_c (goodIn_app (goodIn_app (goodIn_app (goodIn_app (goodIn_app (goodIn_app hL_X12_wouldGrow_wsX12_wouldGrow_r1 (goodIn_app hL_X12_wouldGrow_wsX12_wouldGrow_r2 (goodIn_app hL_X12_wouldGrow_wsX12_wouldGrow_r3 hL_X12_wouldGrow_wsX12_wouldGrow_r4))) hL_X12_wouldGrow_wsX120) hL_X12_wouldGrow_wsX60) hL_X12_wouldGrow_wsX70) hL_X12_wouldGrow_wsX40) hL_X12_wouldGrow_wsX10)
set_option maxRecDepth 20000 in
theorem gL_law_X12_wouldGrow : GoodIn wsL_lawB (wsV RL 131 RX12 yX12_wouldGrow wsX12_wouldGrow) := goodIn_app (goodIn_of _ (by decide +kernel)) ggL_law_X12_wouldGrow
set_option maxRecDepth 20000 in
theorem ggL_law_X13_wouldGrow : GoodIn wsL_lawB wsX13_wouldGrow := goodIn_r _ [1078, 142, 144, 235, 236, 5, 237, 297, 298, 299, 571, 572, 573, 574, 575, 576, 577, 578, 218, 219, 220, 221, 579, 580, 581, 582, 214, 215, 216, 217, 1415, 1416, 1417, 1418, 1419, 1420, 1421, 1422, 1423, 1424, 1425, 1426, 1427, 1428, 1429, 1430, 1431, 1432, 1433, 1434, 1435, 1436, 1437, 1438, 1439, 1440, 1441] (by decide +kernel) (by decide +kernel)
set_option maxRecDepth 20000 in
theorem gL_law_X13_wouldGrow : GoodIn wsL_lawB (wsV RL 134 RX13 yX13_wouldGrow wsX13_wouldGrow) := goodIn_app (goodIn_of _ (by decide +kernel)) ggL_law_X13_wouldGrow
set_option maxRecDepth 20000 in
theorem hL_X12_kindest_c : GoodIn wsL_lawB [Cond.code yX12_kindest cX12_kindest 3 (some .int)] := goodIn_r _ [1082] (by decide +kernel) (by decide +kernel)
set_option maxRecDepth 20000 in
theorem hL_X12_kindest_wsX12_kindest_r1 : GoodIn wsL_lawB wsX12_kindest_r1 := goodIn_r _ [38, 15, 774, 782, 783, 784, 57, 785, 427, 420, 421, 422, 73, 786, 787, 788, 789, 1083, 1084, 1085, 37, 1086, 116, 117] (by decide +kernel) (by decide +kernel)
set_option maxRecDepth 20000 in
theorem hL_X12_kindest_wsX12_kindest_r2 : GoodIn wsL_lawB wsX12_kindest_r2 := goodIn_r _ [1087, 1088, 1089, 1090, 1091, 1092, 1093, 1094, 1095, 1096, 1097, 1098] (by decide +kernel) (by decide +kernel)
set_option maxRecDepth 20000 in
theorem hL_X12_kindest_wsX120 : GoodIn wsL_lawB wsX120 := goodIn_r _ [1404, 1405, 1406, 1407, 1408, 1409, 1410, 1411, 1412, 1413, 1414] (by decide +kernel) (by decide +kernel)
set_option maxRecDepth 20000 in
theorem hL_X12_kindest_wsX60 : GoodIn wsL_lawB wsX60 := goodIn_r _ [1442, 1443, 1444, 1445, 1446, 1447, 1448, 1449, 1450, 1451] (by decide +kernel) (by decide +kernel)
set_option maxRecDepth 20000 in
theorem hL_X12_kindest_wsX40 : GoodIn wsL_lawB wsX40 := goodIn_r _ [1480, 1481] (by decide +kernel) (by decide +kernel)
set_option maxRecDepth 20000 in
theorem hL_X12_kindest_wsX80 : GoodIn wsL_lawB wsX80 := goodIn_r _ [1469, 1470] (by decide +kernel) (by decide +kernel)
set_option maxRecDepth 20000 in
theorem ggL_law_X12_kindest : GoodIn wsL_lawB wsX12_kindest := goodIn_cons hL_X12_kindest_c (goodIn_app (goodIn_app (goodIn_app (goodIn_app (goodIn_app hL_X12_kindest_wsX12_kindest_r1 hL_X12_kindest_wsX12_kindest_r2) hL_X12_kindest_wsX120) hL_X12_kindest_wsX60) hL_X12_kindest_wsX40) hL_X12_kindest_wsX80)
set_option maxRecDepth 20000 in
theorem gL_law_X12_kindest : GoodIn wsL_lawB (wsV RL 135 RX12 yX12_kindest wsX12_kindest) := goodIn_app (goodIn_of _ (by decide +kernel)) ggL_law_X12_kindest
set_option maxRecDepth 20000 in
theorem ggL_law_X13_kindest : GoodIn wsL_lawB wsX13_kindest := goodIn_r _ [1102, 1103, 1104, 1105, 5, 1106, 806, 807, 808, 809, 451, 452, 453, 454, 142, 810, 811, 812, 813, 1415, 1416, 1417, 1418, 1419, 1420, 1421, 1422, 1423, 1424, 1425, 1426, 1427, 1428, 1429, 1430, 1431, 1432, 1433, 1434, 1435, 1436, 1437, 1438, 1439, 1440, 1441] (by decide +kernel) (by decide +kernel)
set_option maxRecDepth 20000 in
theorem gL_law_X13_kindest : GoodIn wsL_lawB (wsV RL 138 RX13 yX13_kindest wsX13_kindest) := goodIn_app (goodIn_of _ (by decide +kernel)) ggL_law_X13_kindest
set_option maxRecDepth 20000 in
theorem hL_X12_worst_c : GoodIn wsL_lawB [Cond.code yX12_worst cX12_worst 3 (some .int)] := goodIn_r _ [1110] (by decide +kernel) (by decide +kernel)
set_option maxRecDepth 20000 in
theorem hL_X12_worst_wsX12_worst_r1 : GoodIn wsL_lawB wsX12_worst_r1 := goodIn_r _ [38, 15, 771, 777, 778, 779, 780, 781, 411, 412, 14, 413, 409, 372, 286, 373, 414, 285, 287, 49, 50, 54, 362, 363] (by decide +kernel) (by decide +kernel)
set_option maxRecDepth 20000 in
theorem hL_X12_worst_wsX12_worst_r2 : GoodIn wsL_lawB wsX12_worst_r2 := goodIn_r _ [364, 53, 365, 193, 67, 68, 1083, 1084, 1085, 37, 1086, 116, 117, 1087, 1088, 1089, 1090, 1091, 1092, 1093, 1094, 1095, 1096, 1097] (by decide +kernel) (by decide +kernel)
set_option maxRecDepth 20000 in
theorem hL_X12_worst_wsX12_worst_r3 : GoodIn wsL_lawB wsX12_worst_r3 := goodIn_r _ [1098] (by decide +kernel) (by decide +kernel)
set_option maxRecDepth 20000 in
theorem hL_X12_worst_wsX120 : GoodIn wsL_lawB wsX120 := goodIn_r _ [1404, 1405, 1406, 1407, 1408, 1409, 1410, 1411, 1412, 1413, 1414] (by decide +kernel) (by decide +kernel)
set_option maxRecDepth 20000 in
theorem hL_X12_worst_wsX60 : GoodIn wsL_lawB wsX60 := goodIn_r _ [1442, 1443, 1444, 1445, 1446, 1447, 1448, 1449, 1450, 1451] (by decide +kernel) (by decide +kernel)
set_option maxRecDepth 20000 in
theorem hL_X12_worst_wsX70 : GoodIn wsL_lawB wsX70 := goodIn_r _ [1475, 1476, 1477, 1478, 1479] (by decide +kernel) (by decide +kernel)
set_option maxRecDepth 20000 in
theorem hL_X12_worst_wsX80 : GoodIn wsL_lawB wsX80 := goodIn_r _ [1469, 1470] (by decide +kernel) (by decide +kernel)
set_option maxRecDepth 20000 in
theorem ggL_law_X12_worst : GoodIn wsL_lawB wsX12_worst := goodIn_cons hL_X12_worst_c (goodIn_app (goodIn_app (goodIn_app (goodIn_app (goodIn_app hL_X12_worst_wsX12_worst_r1 (goodIn_app hL_X12_worst_wsX12_worst_r2 hL_X12_worst_wsX12_worst_r3)) hL_X12_worst_wsX120) hL_X12_worst_wsX60) hL_X12_worst_wsX70) hL_X12_worst_wsX80)
set_option maxRecDepth 20000 in
theorem gL_law_X12_worst : GoodIn wsL_lawB (wsV RL 139 RX12 yX12_worst wsX12_worst) := goodIn_app (goodIn_of _ (by decide +kernel)) ggL_law_X12_worst
set_option maxRecDepth 20000 in
theorem hL_X13_worst_c : GoodIn wsL_lawB [Cond.code yX13_worst cX13_worst 5 (some .int)] := goodIn_r _ [1114] (by decide +kernel) (by decide +kernel)
set_option maxRecDepth 20000 in
theorem hL_X13_worst_wsX13_worst_r1 : GoodIn wsL_lawB wsX13_worst_r1 := goodIn_r _ [1115, 1116, 1117, 5, 1118, 802, 803, 804, 805, 440, 441, 442, 443, 444, 445, 446, 447, 142, 448, 449, 450, 218, 219, 220] (by decide +kernel) (by decide +kernel)
set_option maxRecDepth 20000 in
theorem hL_X13_worst_wsX13_worst_r2 : GoodIn wsL_lawB wsX13_worst_r2 := goodIn_r _ [221, 389, 390, 391, 392, 393, 394, 395, 396] (by decide +kernel) (by decide +kernel)
set_option maxRecDepth 20000 in
theorem hL_X13_worst_wsX130 : GoodIn wsL_lawB wsX130 := goodIn_r _ [1415, 1416, 1417, 1418, 1419, 1420, 1421, 1422, 1423, 1424, 1425, 1426, 1427, 1428, 1429, 1430, 1431, 1432, 1433, 1434, 1435, 1436, 1437, 1438, 1439, 1440, 1441] (by decide +kernel) (by decide +kernel)
set_option maxRecDepth 20000 in
theorem ggL_law_X13_worst : GoodIn wsL_lawB wsX13_worst := goodIn_cons hL_X13_worst_c (goodIn_app (goodIn_app hL_X13_worst_wsX13_worst_r1 hL_X13_worst_wsX13_worst_r2) hL_X13_worst_wsX130)
set_option maxRecDepth 20000 in
theorem gL_law_X13_worst : GoodIn wsL_lawB (wsV RL 142 RX13 yX13_worst wsX13_worst) := goodIn_app (goodIn_of _ (by decide +kernel)) ggL_law_X13_worst
set_option maxRecDepth 20000 in
theorem hL_X12_write_c : GoodIn wsL_lawB [Cond.code yX12_write cX12_write 3 (some .int)] := goodIn_r _ [1122] (by decide +kernel) (by decide +kernel)
set_option maxRecDepth 20000 in
theorem hL_X12_write_wsX12_write_r1 : GoodIn wsL_lawB wsX12_write_r1 := goodIn_r _ [42, 1123, 1124, 1125, 41, 1126, 1127, 1128, 1129, 1130, 123, 1131, 1132, 128, 1133, 1134, 1135, 1136, 1137, 1138, 129, 1139, 1140, 1141] (by decide +kernel) (by decide +kernel)
set_option maxRecDepth 20000 in
theorem hL_X12_write_wsX12_write_r2 : GoodIn wsL_lawB wsX12_write_r2 := goodIn_r _ [1142, 1143, 1144, 1145, 1146, 1147, 1148, 1149, 372, 286, 373, 1150, 1151, 1152, 1153, 1154, 1155, 83, 1156, 1157, 1158, 1159, 1160, 1161] (by decide +kernel) (by decide +kernel)
set_option maxRecDepth 20000 in
theorem hL_X12_write_wsX12_write_r3 : GoodIn wsL_lawB wsX12_write_r3 := goodIn_r _ [1162, 127, 1163, 285, 287, 1164, 247, 248, 249, 1165, 1166, 1167, 1168, 1169, 126, 1170, 1171, 636, 1172, 1173, 1174, 1175, 1176, 1177] (by decide +kernel) (by decide +kernel)
set_option maxRecDepth 20000 in
theorem hL_X12_write_wsX12_write_r4 : GoodIn wsL_lawB wsX12_write_r4 := goodIn_r _ [1178, 1179, 1180, 132, 1181, 1182, 1183, 1184, 1185, 1186, 1187, 1188, 1189, 1190, 1191, 1192, 1193, 1194, 1195, 1196, 1197, 1198, 130, 131] (by decide +kernel) (by decide +kernel)
set_option maxRecDepth 20000 in
theorem hL_X12_write_wsX12_write_r5 : GoodIn wsL_lawB wsX12_write_r5 := goodIn_r _ [133, 134, 135, 136, 137, 1199, 1200, 1201, 1202, 1203, 1204, 1205, 1206, 1207, 652, 653, 654, 1208, 1209, 617, 1210, 641, 1211, 1212] (by decide +kernel) (by decide +kernel)
set_option maxRecDepth 20000 in
theorem hL_X12_write_wsX12_write_r6 : GoodIn wsL_lawB wsX12_write_r6 := goodIn_r _ [644, 1213, 1214, 1215, 1216, 659, 660, 661, 1217, 1218, 1219, 649, 650, 651, 655, 639, 640, 642, 643, 645, 1220, 1221, 1222, 2] (by decide +kernel) (by decide +kernel)
set_option maxRecDepth 20000 in
theorem hL_X12_write_wsX12_write_r7 : GoodIn wsL_lawB wsX12_write_r7 := goodIn_r _ [1223, 15, 771, 773, 1224, 1225, 1226, 1227, 1228, 1229, 1230, 1231, 1232, 1233, 1234, 1235, 1236, 1237, 1238, 1239, 1240, 1241, 1242, 1243] (by decide +kernel) (by decide +kernel)
set_option maxRecDepth 20000 in
theorem hL_X12_write_wsX12_write_r8 : GoodIn wsL_lawB wsX12_write_r8 := goodIn_r _ [1244, 1245, 1246, 1247, 1248, 1249, 1250, 1251, 1252, 1253, 1254, 1255, 1256, 1257, 776, 489, 490, 61, 491, 204, 78, 777, 778, 779] (by decide +kernel) (by decide +kernel)
set_option maxRecDepth 20000 in
theorem hL_X12_write_wsX12_write_r9 : GoodIn wsL_lawB wsX12_write_r9 := goodIn_r _ [780, 781, 411, 412, 14, 413, 409, 414, 49, 50, 54, 362, 363, 364, 53, 365, 193, 67, 68, 1258, 1259, 1260, 1261, 1262] (by decide +kernel) (by decide +kernel)
set_option maxRecDepth 20000 in
theorem hL_X12_write_wsX12_write_r10 : GoodIn wsL_lawB wsX12_write_r10 := goodIn_r _ [1263, 1264, 1265] (by decide +kernel) (by decide +kernel)
set_option maxRecDepth 20000 in
theorem hL_X12_write_wsX120 : GoodIn wsL_lawB wsX120 := goodIn_r _ [1404, 1405, 1406, 1407, 1408, 1409, 1410, 1411, 1412, 1413, 1414] (by decide +kernel) (by decide +kernel)
set_option maxRecDepth 20000 in
theorem hL_X12_write_wsJ40 : GoodIn wsL_lawB wsJ40 := goodIn_r _ [1471, 1472, 1473, 1474] (by decide +kernel) (by decide +kernel)
set_option maxRecDepth 20000 in
theorem hL_X12_write_wsX60 : GoodIn wsL_lawB wsX60 := goodIn_r _ [1442, 1443, 1444, 1445, 1446, 1447, 1448, 1449, 1450, 1451] (by decide +kernel) (by decide +kernel)
set_option maxRecDepth 20000 in
theorem hL_X12_write_wsX10 : GoodIn wsL_lawB wsX10 := goodIn_r _ [1482, 1483, 1484, 1485] (by decide +kernel) (by decide +kernel)
set_option maxRecDepth 20000 in
theorem hL_X12_write_wsX70 : GoodIn wsL_lawB wsX70 := goodIn_r _ [1475, 1476, 1477, 1478, 1479] (by decide +kernel) (by decide +kernel)
set_option maxRecDepth 20000 in
theorem ggL_law_X12_write : GoodIn wsL_lawB wsX12_write := goodIn_cons hL_X12_write_c (goodIn_app (goodIn_app (goodIn_app (goodIn_app (goodIn_app (goodIn_app hL_X12_write_wsX12_write_r1 (goodIn_app hL_X12_write_wsX12_write_r2 (goodIn_app hL_X12_write_wsX12_write_r3 (goodIn_app hL_X12_write_wsX12_write_r4 (goodIn_app hL_X12_write_wsX12_write_r5 (goodIn_app hL_X12_write_wsX12_write_r6 (goodIn_app hL_X12_write_wsX12_write_r7 (goodIn_app hL_X12_write_wsX12_write_r8 (goodIn_app hL_X12_write_wsX12_write_r9 hL_X12_write_wsX12_write_r10))))))))) hL_X12_write_wsX120) hL_X12_write_wsJ40) hL_X12_write_wsX60) hL_X12_write_wsX10) hL_X12_write_wsX70)
set_option maxRecDepth 20000 in
theorem gL_law_X12_write : GoodIn wsL_lawB (wsV RL 143 RX12 yX12_write wsX12_write) := goodIn_app (goodIn_of _ (by decide +kernel)) ggL_law_X12_write
set_option maxRecDepth 20000 in
theorem hL_X13_write_c : GoodIn wsL_lawB [Cond.code yX13_write cX13_write 3 (some .int)] := goodIn_r _ [1269] (by decide +kernel) (by decide +kernel)
set_option maxRecDepth 20000 in
theorem hL_X13_write_wsX13_write_r1 : GoodIn wsL_lawB wsX13_write_r1 := goodIn_r _ [159, 235, 236, 5, 237, 1270, 1271, 1272, 1273, 158, 218, 219, 220, 221, 142, 1274, 1275, 1276, 1277, 504, 505, 506, 507, 508] (by decide +kernel) (by decide +kernel)
set_option maxRecDepth 20000 in
theorem hL_X13_write_wsX13_write_r2 : GoodIn wsL_lawB wsX13_write_r2 := goodIn_r _ [509, 510, 511, 802, 803, 804, 805, 440, 441, 442, 443, 444, 445, 446, 447, 448, 449, 450, 389, 390, 391, 392, 393, 394] (by decide +kernel) (by decide +kernel)
set_option maxRecDepth 20000 in
theorem hL_X13_write_wsX13_write_r3 : GoodIn wsL_lawB wsX13_write_r3 := goodIn_r _ [395, 396] (by decide +kernel) (by decide +kernel)
set_option maxRecDepth 20000 in
theorem hL_X13_write_wsX130 : GoodIn wsL_lawB wsX130 := goodIn_r _ [1415, 1416, 1417, 1418, 1419, 1420, 1421, 1422, 1423, 1424, 1425, 1426, 1427, 1428, 1429, 1430, 1431, 1432, 1433, 1434, 1435, 1436, 1437, 1438, 1439, 1440, 1441] (by decide +kernel) (by decide +kernel)
set_option maxRecDepth 20000 in
theorem ggL_law_X13_write : GoodIn wsL_lawB wsX13_write := goodIn_cons hL_X13_write_c (goodIn_app (goodIn_app hL_X13_write_wsX13_write_r1 (goodIn_app hL_X13_write_wsX13_write_r2 hL_X13_write_wsX13_write_r3)) hL_X13_write_wsX130)
set_option maxRecDepth 20000 in
theorem gL_law_X13_write : GoodIn wsL_lawB (wsV RL 146 RX13 yX13_write wsX13_write) := goodIn_app (goodIn_of _ (by decide +kernel)) ggL_law_X13_write
set_option maxRecDepth 20000 in
theorem hL_X12_writeLines_c : GoodIn wsL_lawB [Cond.code yX12_writeLines cX12_writeLines 2 (some .int)] := goodIn_r _ [1281] (by decide +kernel) (by decide +kernel)
set_option maxRecDepth 20000 in
theorem hL_X12_writeLines_wsX12_writeLines_r1 : GoodIn wsL_lawB wsX12_writeLines_r1 := goodIn_r _ [42, 15, 775, 889, 890, 891, 892, 1123, 1124, 1125, 41, 1126, 1127, 1128, 1129, 1130, 123, 1131, 1132, 128, 1133, 1134, 1135, 1136] (by decide +kernel) (by decide +kernel)
set_option maxRecDepth 20000 in
theorem hL_X12_writeLines_wsX12_writeLines_r2 : GoodIn wsL_lawB wsX12_writeLines_r2 := goodIn_r _ [1137, 1138, 129, 1139, 1140, 1141, 1142, 1143, 1144, 1145, 1146, 1147, 1148, 1149, 372, 286, 373, 1150, 1151, 1152, 1153, 1154, 1155, 83] (by decide +kernel) (by decide +kernel)
set_option maxRecDepth 20000 in
theorem hL_X12_writeLines_wsX12_writeLines_r3 : GoodIn wsL_lawB wsX12_writeLines_r3 := goodIn_r _ [1156, 1157, 1158, 1159, 1160, 1161, 1162, 127, 1163, 285, 287, 1164, 247, 248, 249, 1165, 1166, 1167, 1168, 1169, 126, 1170, 1171, 636] (by decide +kernel) (by decide +kernel)
set_option maxRecDepth 20000 in
theorem hL_X12_writeLines_wsX12_writeLines_r4 : GoodIn wsL_lawB wsX12_writeLines_r4 := goodIn_r _ [1172, 1173, 1174, 1175, 1176, 1177, 1178, 1179, 1180, 132, 1181, 1182, 1183, 1184, 1185, 1186, 1187, 1188, 1189, 1190, 1191, 1192, 1193, 1194] (by decide +kernel) (by decide +kernel)
set_option maxRecDepth 20000 in
theorem hL_X12_writeLines_wsX12_writeLines_r5 : GoodIn wsL_lawB wsX12_writeLines_r5 := goodIn_r _ [1195, 1196, 1197, 1198, 130, 131, 133, 134, 135, 136, 137, 1199, 1200, 1201, 1202, 1203, 1204, 1205, 1206, 1207, 652, 653, 654, 1208] (by decide +kernel) (by decide +kernel)
set_option maxRecDepth 20000 in
theorem hL_X12_writeLines_wsX12_writeLines_r6 : GoodIn wsL_lawB wsX12_writeLines_r6 := goodIn_r _ [1209, 617, 1210, 641, 1211, 1212, 644, 1213, 1214, 1215, 1216, 659, 660, 661, 1217, 1218, 1219, 649, 650, 651, 655, 639, 640, 642] (by decide +kernel) (by decide +kernel)
set_option maxRecDepth 20000 in
theorem hL_X12_writeLines_wsX12_writeLines_r7 : GoodIn wsL_lawB wsX12_writeLines_r7 := goodIn_r _ [643, 645, 1224, 1225, 1226, 1227, 1228, 1229, 1230, 1231, 1232, 1233, 1234, 1235, 1236, 1237, 1238, 1239, 1240, 1241, 1242, 1243, 1244, 1245] (by decide +kernel) (by decide +kernel)
set_option maxRecDepth 20000 in
theorem hL_X12_writeLines_wsX12_writeLines_r8 : GoodIn wsL_lawB wsX12_writeLines_r8 := goodIn_r _ [1246, 1247, 1248, 1249, 1250, 1251, 1252, 1253, 1254, 1255, 1256, 1257, 1258, 1259, 1260, 1261, 1262, 1263, 1264, 1265] (by decide +kernel) (by decide +kernel)
set_option maxRecDepth 20000 in
theorem hL_X12_writeLines_wsX120 : GoodIn wsL_lawB wsX120 := goodIn_r _ [1404, 1405, 1406, 1407, 1408, 1409, 1410, 1411, 1412, 1413, 1414] (by decide +kernel) (by decide +kernel)
set_option maxRecDepth 20000 in
theorem hL_X12_writeLines_wsX60 : GoodIn wsL_lawB wsX60 := goodIn_r _ [1442, 1443, 1444, 1445, 1446, 1447, 1448, 1449, 1450, 1451] (by decide +kernel) (by decide +kernel)
set_option maxRecDepth 20000 in
theorem hL_X12_writeLines_wsX70 : GoodIn wsL_lawB wsX70 := goodIn_r _ [1475, 1476, 1477, 1478, 1479] (by decide +kernel) (by decide +kernel)
set_option maxRecDepth 20000 in
theorem hL_X12_writeLines_wsJ40 : GoodIn wsL_lawB wsJ40 := goodIn_r _ [1471, 1472, 1473, 1474] (by decide +kernel) (by decide +kernel)
set_option maxRecDepth 20000 in
theorem ggL_law_X12_writeLines : GoodIn wsL_lawB wsX12_writeLines := goodIn_cons hL_X12_writeLines_c (goodIn_app (goodIn_app (goodIn_app (goodIn_app (goodIn_app hL_X12_writeLines_wsX12_writeLines_r1 (goodIn_app hL_X12_writeLines_wsX12_writeLines_r2 (goodIn_app hL_X12_writeLines_wsX12_writeLines_r3 (goodIn_app hL_X12_writeLines_wsX12_writeLines_r4 (goodIn_app hL_X12_writeLines_wsX12_writeLines_r5 (goodIn_app hL_X12_writeLines_wsX12_writeLines_r6 (goodIn_app hL_X12_writeLines_wsX12_writeLines_r7 hL_X12_writeLines_wsX12_writeLines_r8))))))) hL_X12_writeLines_wsX120) hL_X12_writeLines_wsX60) hL_X12_writeLines_wsX70) hL_X12_writeLines_wsJ40)
set_option maxRecDepth 20000 in
theorem gL_law_X12_writeLines : GoodIn wsL_lawB (wsV RL 147 RX12 yX12_writeLines wsX12_writeLines) := goodIn_app (goodIn_of _ (by decide +kernel)) ggL_law_X12_writeLines
set_option maxRecDepth 20000 in
theorem ggL_law_X13_writeLines : GoodIn wsL_lawB wsX13_writeLines := goodIn_r _ [1285, 159, 142, 1270, 1271, 1272, 5, 1273, 158, 393, 394, 395, 396, 1274, 1275, 1276, 1277, 1415, 1416, 1417, 1418, 1419, 1420, 1421, 1422, 1423, 1424, 1425, 1426, 1427, 1428, 1429, 1430, 1431, 1432, 1433, 1434, 1435, 1436, 1437, 1438, 1439, 1440, 1441] (by decide +kernel) (by decide +kernel)
set_option maxRecDepth 20000 in
theorem gL_law_X13_writeLines : GoodIn wsL_lawB (wsV RL 150 RX13 yX13_writeLines wsX13_writeLines) := goodIn_app (goodIn_of _ (by decide +kernel)) ggL_law_X13_writeLines
set_option maxRecDepth 20000 in
theorem hL_X12_written_c : GoodIn wsL_lawB [Cond.code yX12_written cX12_written 2 (some .int)] := goodIn_r _ [1289] (by decide +kernel) (by decide +kernel)
set_option maxRecDepth 20000 in
theorem hL_X12_written_wsX12_written_r1 : GoodIn wsL_lawB wsX12_written_r1 := goodIn_r _ [42, 1258, 1259, 1260, 41, 1261, 1262, 1263, 1129, 1264, 123, 1265, 1132, 1290, 1291, 1292, 1293, 1294, 1295, 1296, 1297, 129, 128, 1298] (by decide +kernel) (by decide +kernel)
set_option maxRecDepth 20000 in
theorem hL_X12_written_wsX12_written_r2 : GoodIn wsL_lawB wsX12_written_r2 := goodIn_r _ [285, 286, 287, 1299, 639, 617, 640, 641, 642, 643, 644, 645, 1300, 657, 132, 658, 659, 660, 661, 652, 653, 654] (by decide +kernel) (by decide +kernel)
set_option maxRecDepth 20000 in
theorem hL_X12_written_wsX120 : GoodIn wsL_lawB wsX120 := goodIn_r _ [1404, 1405, 1406, 1407, 1408, 1409, 1410, 1411, 1412, 1413, 1414] (by decide +kernel) (by decide +kernel)
set_option maxRecDepth 20000 in
theorem hL_X12_written_wsJ40 : GoodIn wsL_lawB wsJ40 := goodIn_r _ [1471, 1472, 1473, 1474] (by decide +kernel) (by decide +kernel)
set_option maxRecDepth 20000 in
theorem ggL_law_X12_written : GoodIn wsL_lawB wsX12_written := goodIn_cons hL_X12_written_c (goodIn_app (goodIn_app (goodIn_app hL_X12_written_wsX12_written_r1 hL_X12_written_wsX12_written_r2) hL_X12_written_wsX120) hL_X12_written_wsJ40)
set_option maxRecDepth 20000 in
theorem gL_law_X12_written : GoodIn wsL_lawB (wsV RL 151 RX12 yX12_written wsX12_written) := goodIn_app (goodIn_of _ (by decide +kernel)) ggL_law_X12_written
set_option maxRecDepth 20000 in
theorem ggL_law_X13_written : GoodIn wsL_lawB wsX13_written := goodIn_r _ [1304, 159, 158, 235, 236, 5, 237, 1415, 1416, 1417, 1418, 1419, 1420, 1421, 1422, 1423, 1424, 1425, 1426, 1427, 1428, 1429, 1430, 1431, 1432, 1433, 1434, 1435, 1436, 1437, 1438, 1439, 1440, 1441] (by decide +kernel) (by decide +kernel)
set_option maxRecDepth 20000 in
theorem gL_law_X13_written : GoodIn wsL_lawB (wsV RL 154 RX13 yX13_written wsX13_written) := goodIn_app (goodIn_of _ (by decide +kernel)) ggL_law_X13_written
