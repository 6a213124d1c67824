/-! printed: the law's calls -/
set_option maxRecDepth 20000 in
theorem ggL_law_X12_circles : GoodIn wsL_lawB wsX12_circles := goodIn_r _ [1053, 15, 774, 1054, 1055, 1056, 57, 1057, 1058, 1059, 1060, 1061, 1062, 1063, 1064, 1065, 1066, 795, 796, 797, 427, 420, 421, 422, 73, 1404, 1405, 1406, 1407, 1408, 1409, 1410, 1411, 1412, 1413, 1414, 1442, 1443, 1444, 1445, 1446, 1447, 1448, 1449, 1450, 1451, 1480, 1481] (by decide +kernel) (by decide +kernel)
set_option maxRecDepth 20000 in
theorem gL_law_X12_circles : GoodIn wsL_lawB (wsV RL 127 RX12 yX12_circles wsX12_circles) := goodIn_app (goodIn_of _ (by decide +kernel)) ggL_law_X12_circles
set_option maxRecDepth 20000 in
theorem ggL_law_X13_circles : GoodIn wsL_lawB wsX13_circles := goodIn_r _ [1070, 818, 819, 820, 5, 821, 451, 452, 453, 454, 142, 1415, 1416, 1417, 1418, 1419, 1420, 1421, 1422, 1423, 1424, 1425, 1426, 1427, 1428, 1429, 1430, 1431, 1432, 1433, 1434, 1435, 1436, 1437, 1438, 1439, 1440, 1441] (by decide +kernel) (by decide +kernel)
set_option maxRecDepth 20000 in
theorem gL_law_X13_circles : GoodIn wsL_lawB (wsV RL 130 RX13 yX13_circles wsX13_circles) := goodIn_app (goodIn_of _ (by decide +kernel)) ggL_law_X13_circles
set_option maxRecDepth 20000 in
theorem ggL_law_X12_wouldGrow : GoodIn wsL_lawB wsX12_wouldGrow := goodIn_r _ [1074, 16, 15, 242, 243, 244, 14, 245, 49, 246, 247, 248, 249, 50, 54, 58, 62, 185, 186, 187, 188, 250, 251, 252, 53, 253, 67, 254, 68, 69, 193, 194, 255, 256, 257, 57, 258, 73, 259, 74, 260, 261, 262, 61, 263, 78, 264, 79, 80, 204, 548, 549, 550, 551, 63, 552, 553, 554, 555, 556, 557, 558, 559, 560, 561, 562, 199, 82, 83, 84, 177, 178, 179, 180, 1404, 1405, 1406, 1407, 1408, 1409, 1410, 1411, 1412, 1413, 1414, 1442, 1443, 1444, 1445, 1446, 1447, 1448, 1449, 1450, 1451, 1475, 1476, 1477, 1478, 1479, 1480, 1481, 1482, 1483, 1484, 1485] (by decide +kernel) (by decide +kernel)
set_option maxRecDepth 20000 in
theorem gL_law_X12_wouldGrow : GoodIn wsL_lawB (wsV RL 131 RX12 yX12_wouldGrow wsX12_wouldGrow) := goodIn_app (goodIn_of _ (by decide +kernel)) ggL_law_X12_wouldGrow
set_option maxRecDepth 20000 in
theorem ggL_law_X13_wouldGrow : GoodIn wsL_lawB wsX13_wouldGrow := goodIn_r _ [1078, 142, 144, 235, 236, 5, 237, 297, 298, 299, 571, 572, 573, 574, 575, 576, 577, 578, 218, 219, 220, 221, 579, 580, 581, 582, 214, 215, 216, 217, 1415, 1416, 1417, 1418, 1419, 1420, 1421, 1422, 1423, 1424, 1425, 1426, 1427, 1428, 1429, 1430, 1431, 1432, 1433, 1434, 1435, 1436, 1437, 1438, 1439, 1440, 1441] (by decide +kernel) (by decide +kernel)
set_option maxRecDepth 20000 in
theorem gL_law_X13_wouldGrow : GoodIn wsL_lawB (wsV RL 134 RX13 yX13_wouldGrow wsX13_wouldGrow) := goodIn_app (goodIn_of _ (by decide +kernel)) ggL_law_X13_wouldGrow
set_option maxRecDepth 20000 in
theorem ggL_law_X12_kindest : GoodIn wsL_lawB wsX12_kindest := goodIn_r _ [1082, 38, 15, 774, 782, 783, 784, 57, 785, 427, 420, 421, 422, 73, 786, 787, 788, 789, 1083, 1084, 1085, 37, 1086, 116, 117, 1087, 1088, 1089, 1090, 1091, 1092, 1093, 1094, 1095, 1096, 1097, 1098, 1404, 1405, 1406, 1407, 1408, 1409, 1410, 1411, 1412, 1413, 1414, 1442, 1443, 1444, 1445, 1446, 1447, 1448, 1449, 1450, 1451, 1480, 1481, 1469, 1470] (by decide +kernel) (by decide +kernel)
set_option maxRecDepth 20000 in
theorem gL_law_X12_kindest : GoodIn wsL_lawB (wsV RL 135 RX12 yX12_kindest wsX12_kindest) := goodIn_app (goodIn_of _ (by decide +kernel)) ggL_law_X12_kindest
set_option maxRecDepth 20000 in
theorem ggL_law_X13_kindest : GoodIn wsL_lawB wsX13_kindest := goodIn_r _ [1102, 1103, 1104, 1105, 5, 1106, 806, 807, 808, 809, 451, 452, 453, 454, 142, 810, 811, 812, 813, 1415, 1416, 1417, 1418, 1419, 1420, 1421, 1422, 1423, 1424, 1425, 1426, 1427, 1428, 1429, 1430, 1431, 1432, 1433, 1434, 1435, 1436, 1437, 1438, 1439, 1440, 1441] (by decide +kernel) (by decide +kernel)
set_option maxRecDepth 20000 in
theorem gL_law_X13_kindest : GoodIn wsL_lawB (wsV RL 138 RX13 yX13_kindest wsX13_kindest) := goodIn_app (goodIn_of _ (by decide +kernel)) ggL_law_X13_kindest
set_option maxRecDepth 20000 in
theorem ggL_law_X12_worst : GoodIn wsL_lawB wsX12_worst := goodIn_r _ [1110, 38, 15, 771, 777, 778, 779, 780, 781, 411, 412, 14, 413, 409, 372, 286, 373, 414, 285, 287, 49, 50, 54, 362, 363, 364, 53, 365, 193, 67, 68, 1083, 1084, 1085, 37, 1086, 116, 117, 1087, 1088, 1089, 1090, 1091, 1092, 1093, 1094, 1095, 1096, 1097, 1098, 1404, 1405, 1406, 1407, 1408, 1409, 1410, 1411, 1412, 1413, 1414, 1442, 1443, 1444, 1445, 1446, 1447, 1448, 1449, 1450, 1451, 1475, 1476, 1477, 1478, 1479, 1469, 1470] (by decide +kernel) (by decide +kernel)
set_option maxRecDepth 20000 in
theorem gL_law_X12_worst : GoodIn wsL_lawB (wsV RL 139 RX12 yX12_worst wsX12_worst) := goodIn_app (goodIn_of _ (by decide +kernel)) ggL_law_X12_worst
set_option maxRecDepth 20000 in
theorem ggL_law_X13_worst : GoodIn wsL_lawB wsX13_worst := goodIn_r _ [1114, 1115, 1116, 1117, 5, 1118, 802, 803, 804, 805, 440, 441, 442, 443, 444, 445, 446, 447, 142, 448, 449, 450, 218, 219, 220, 221, 389, 390, 391, 392, 393, 394, 395, 396, 1415, 1416, 1417, 1418, 1419, 1420, 1421, 1422, 1423, 1424, 1425, 1426, 1427, 1428, 1429, 1430, 1431, 1432, 1433, 1434, 1435, 1436, 1437, 1438, 1439, 1440, 1441] (by decide +kernel) (by decide +kernel)
set_option maxRecDepth 20000 in
theorem gL_law_X13_worst : GoodIn wsL_lawB (wsV RL 142 RX13 yX13_worst wsX13_worst) := goodIn_app (goodIn_of _ (by decide +kernel)) ggL_law_X13_worst
set_option maxRecDepth 20000 in
theorem ggL_law_X12_write : GoodIn wsL_lawB wsX12_write := goodIn_r _ [1122, 42, 1123, 1124, 1125, 41, 1126, 1127, 1128, 1129, 1130, 123, 1131, 1132, 128, 1133, 1134, 1135, 1136, 1137, 1138, 129, 1139, 1140, 1141, 1142, 1143, 1144, 1145, 1146, 1147, 1148, 1149, 372, 286, 373, 1150, 1151, 1152, 1153, 1154, 1155, 83, 1156, 1157, 1158, 1159, 1160, 1161, 1162, 127, 1163, 285, 287, 1164, 247, 248, 249, 1165, 1166, 1167, 1168, 1169, 126, 1170, 1171, 636, 1172, 1173, 1174, 1175, 1176, 1177, 1178, 1179, 1180, 132, 1181, 1182, 1183, 1184, 1185, 1186, 1187, 1188, 1189, 1190, 1191, 1192, 1193, 1194, 1195, 1196, 1197, 1198, 130, 131, 133, 134, 135, 136, 137, 1199, 1200, 1201, 1202, 1203, 1204, 1205, 1206, 1207, 652, 653, 654, 1208, 1209, 617, 1210, 641, 1211, 1212, 644, 1213, 1214, 1215, 1216, 659, 660, 661, 1217, 1218, 1219, 649, 650, 651, 655, 639, 640, 642, 643, 645, 1220, 1221, 1222, 2, 1223, 15, 771, 773, 1224, 1225, 1226, 1227, 1228, 1229, 1230, 1231, 1232, 1233, 1234, 1235, 1236, 1237, 1238, 1239, 1240, 1241, 1242, 1243, 1244, 1245, 1246, 1247, 1248, 1249, 1250, 1251, 1252, 1253, 1254, 1255, 1256, 1257, 776, 489, 490, 61, 491, 204, 78, 777, 778, 779, 780, 781, 411, 412, 14, 413, 409, 414, 49, 50, 54, 362, 363, 364, 53, 365, 193, 67, 68, 1258, 1259, 1260, 1261, 1262, 1263, 1264, 1265, 1404, 1405, 1406, 1407, 1408, 1409, 1410, 1411, 1412, 1413, 1414, 1471, 1472, 1473, 1474, 1442, 1443, 1444, 1445, 1446, 1447, 1448, 1449, 1450, 1451, 1482, 1483, 1484, 1485, 1475, 1476, 1477, 1478, 1479] (by decide +kernel) (by decide +kernel)
set_option maxRecDepth 20000 in
theorem gL_law_X12_write : GoodIn wsL_lawB (wsV RL 143 RX12 yX12_write wsX12_write) := goodIn_app (goodIn_of _ (by decide +kernel)) ggL_law_X12_write
set_option maxRecDepth 20000 in
theorem ggL_law_X13_write : GoodIn wsL_lawB wsX13_write := goodIn_r _ [1269, 159, 235, 236, 5, 237, 1270, 1271, 1272, 1273, 158, 218, 219, 220, 221, 142, 1274, 1275, 1276, 1277, 504, 505, 506, 507, 508, 509, 510, 511, 802, 803, 804, 805, 440, 441, 442, 443, 444, 445, 446, 447, 448, 449, 450, 389, 390, 391, 392, 393, 394, 395, 396, 1415, 1416, 1417, 1418, 1419, 1420, 1421, 1422, 1423, 1424, 1425, 1426, 1427, 1428, 1429, 1430, 1431, 1432, 1433, 1434, 1435, 1436, 1437, 1438, 1439, 1440, 1441] (by decide +kernel) (by decide +kernel)
set_option maxRecDepth 20000 in
theorem gL_law_X13_write : GoodIn wsL_lawB (wsV RL 146 RX13 yX13_write wsX13_write) := goodIn_app (goodIn_of _ (by decide +kernel)) ggL_law_X13_write
set_option maxRecDepth 20000 in
theorem ggL_law_X12_writeLines : GoodIn wsL_lawB wsX12_writeLines := goodIn_r _ [1281, 42, 15, 775, 889, 890, 891, 892, 1123, 1124, 1125, 41, 1126, 1127, 1128, 1129, 1130, 123, 1131, 1132, 128, 1133, 1134, 1135, 1136, 1137, 1138, 129, 1139, 1140, 1141, 1142, 1143, 1144, 1145, 1146, 1147, 1148, 1149, 372, 286, 373, 1150, 1151, 1152, 1153, 1154, 1155, 83, 1156, 1157, 1158, 1159, 1160, 1161, 1162, 127, 1163, 285, 287, 1164, 247, 248, 249, 1165, 1166, 1167, 1168, 1169, 126, 1170, 1171, 636, 1172, 1173, 1174, 1175, 1176, 1177, 1178, 1179, 1180, 132, 1181, 1182, 1183, 1184, 1185, 1186, 1187, 1188, 1189, 1190, 1191, 1192, 1193, 1194, 1195, 1196, 1197, 1198, 130, 131, 133, 134, 135, 136, 137, 1199, 1200, 1201, 1202, 1203, 1204, 1205, 1206, 1207, 652, 653, 654, 1208, 1209, 617, 1210, 641, 1211, 1212, 644, 1213, 1214, 1215, 1216, 659, 660, 661, 1217, 1218, 1219, 649, 650, 651, 655, 639, 640, 642, 643, 645, 1224, 1225, 1226, 1227, 1228, 1229, 1230, 1231, 1232, 1233, 1234, 1235, 1236, 1237, 1238, 1239, 1240, 1241, 1242, 1243, 1244, 1245, 1246, 1247, 1248, 1249, 1250, 1251, 1252, 1253, 1254, 1255, 1256, 1257, 1258, 1259, 1260, 1261, 1262, 1263, 1264, 1265, 1404, 1405, 1406, 1407, 1408, 1409, 1410, 1411, 1412, 1413, 1414, 1442, 1443, 1444, 1445, 1446, 1447, 1448, 1449, 1450, 1451, 1475, 1476, 1477, 1478, 1479, 1471, 1472, 1473, 1474] (by decide +kernel) (by decide +kernel)
set_option maxRecDepth 20000 in
theorem gL_law_X12_writeLines : GoodIn wsL_lawB (wsV RL 147 RX12 yX12_writeLines wsX12_writeLines) := goodIn_app (goodIn_of _ (by decide +kernel)) ggL_law_X12_writeLines
set_option maxRecDepth 20000 in
theorem ggL_law_X13_writeLines : GoodIn wsL_lawB wsX13_writeLines := goodIn_r _ [1285, 159, 142, 1270, 1271, 1272, 5, 1273, 158, 393, 394, 395, 396, 1274, 1275, 1276, 1277, 1415, 1416, 1417, 1418, 1419, 1420, 1421, 1422, 1423, 1424, 1425, 1426, 1427, 1428, 1429, 1430, 1431, 1432, 1433, 1434, 1435, 1436, 1437, 1438, 1439, 1440, 1441] (by decide +kernel) (by decide +kernel)
set_option maxRecDepth 20000 in
theorem gL_law_X13_writeLines : GoodIn wsL_lawB (wsV RL 150 RX13 yX13_writeLines wsX13_writeLines) := goodIn_app (goodIn_of _ (by decide +kernel)) ggL_law_X13_writeLines
set_option maxRecDepth 20000 in
theorem ggL_law_X12_written : GoodIn wsL_lawB wsX12_written := goodIn_r _ [1289, 42, 1258, 1259, 1260, 41, 1261, 1262, 1263, 1129, 1264, 123, 1265, 1132, 1290, 1291, 1292, 1293, 1294, 1295, 1296, 1297, 129, 128, 1298, 285, 286, 287, 1299, 639, 617, 640, 641, 642, 643, 644, 645, 1300, 657, 132, 658, 659, 660, 661, 652, 653, 654, 1404, 1405, 1406, 1407, 1408, 1409, 1410, 1411, 1412, 1413, 1414, 1471, 1472, 1473, 1474] (by decide +kernel) (by decide +kernel)
set_option maxRecDepth 20000 in
theorem gL_law_X12_written : GoodIn wsL_lawB (wsV RL 151 RX12 yX12_written wsX12_written) := goodIn_app (goodIn_of _ (by decide +kernel)) ggL_law_X12_written
set_option maxRecDepth 20000 in
theorem ggL_law_X13_written : GoodIn wsL_lawB wsX13_written := goodIn_r _ [1304, 159, 158, 235, 236, 5, 237, 1415, 1416, 1417, 1418, 1419, 1420, 1421, 1422, 1423, 1424, 1425, 1426, 1427, 1428, 1429, 1430, 1431, 1432, 1433, 1434, 1435, 1436, 1437, 1438, 1439, 1440, 1441] (by decide +kernel) (by decide +kernel)
set_option maxRecDepth 20000 in
theorem gL_law_X13_written : GoodIn wsL_lawB (wsV RL 154 RX13 yX13_written wsX13_written) := goodIn_app (goodIn_of _ (by decide +kernel)) ggL_law_X13_written
