/-! printed: the law's calls -/
set_option maxRecDepth 20000 in
theorem hL_X12_isWell_c : GoodIn wsL_lawB [Cond.code yX12_isWell cX12_isWell 2 (some .int)] := goodIn_r _ [1308] (by decide +kernel) (by decide +kernel)
set_option maxRecDepth 20000 in
theorem hL_X12_isWell_wsX12_isWell_r1 : GoodIn wsL_lawB wsX12_isWell_r1 := goodIn_r _ [15, 773, 1309, 898, 899, 2, 900, 901, 902, 779, 903, 781, 411, 412, 14, 413, 409, 372, 286, 373, 414, 285, 287, 49] (by decide +kernel) (by decide +kernel)
set_option maxRecDepth 20000 in
theorem hL_X12_isWell_wsX12_isWell_r2 : GoodIn wsL_lawB wsX12_isWell_r2 := goodIn_r _ [50, 54, 362, 363, 364, 53, 365, 193, 67, 68, 1310, 913, 914, 915, 916, 917, 918, 919, 920, 921, 922, 923, 924, 925] (by decide +kernel) (by decide +kernel)
set_option maxRecDepth 20000 in
theorem hL_X12_isWell_wsX12_isWell_r3 : GoodIn wsL_lawB wsX12_isWell_r3 := goodIn_r _ [926, 927, 928, 929, 930, 1311, 936, 937, 938, 939, 940, 941, 942, 943, 944, 945, 946, 947, 1312, 961, 962, 963, 16, 242] (by decide +kernel) (by decide +kernel)
set_option maxRecDepth 20000 in
theorem hL_X12_isWell_wsX12_isWell_r4 : GoodIn wsL_lawB wsX12_isWell_r4 := goodIn_r _ [243, 244, 245, 246, 247, 248, 249, 58, 62, 185, 186, 187, 188, 250, 251, 252, 253, 254, 69, 194, 255, 256, 257, 57] (by decide +kernel) (by decide +kernel)
set_option maxRecDepth 20000 in
theorem hL_X12_isWell_wsX12_isWell_r5 : GoodIn wsL_lawB wsX12_isWell_r5 := goodIn_r _ [258, 73, 259, 74, 260, 261, 262, 61, 263, 78, 264, 79, 80, 204, 964, 965, 966, 967, 968, 969, 1313, 975, 976, 977] (by decide +kernel) (by decide +kernel)
set_option maxRecDepth 20000 in
theorem hL_X12_isWell_wsX12_isWell_r6 : GoodIn wsL_lawB wsX12_isWell_r6 := goodIn_r _ [774, 978, 979, 980, 981, 982, 783, 784, 785, 427, 420, 421, 422, 1314, 992, 993, 994, 995, 996, 997, 998, 999, 787, 788] (by decide +kernel) (by decide +kernel)
set_option maxRecDepth 20000 in
theorem hL_X12_isWell_wsX12_isWell_r7 : GoodIn wsL_lawB wsX12_isWell_r7 := goodIn_r _ [789, 1315, 1316, 1317, 1318, 34, 850, 851, 852, 33, 853, 111, 854, 82, 83, 84, 855, 856, 857, 858, 859, 860, 861, 862] (by decide +kernel) (by decide +kernel)
set_option maxRecDepth 20000 in
theorem hL_X12_isWell_wsX12_isWell_r8 : GoodIn wsL_lawB wsX12_isWell_r8 := goodIn_r _ [863, 864, 865, 410, 1017, 1018, 1019, 1020, 112, 1021, 1022, 1023, 1024, 1319, 1320, 1321, 1322, 1323, 1324, 1325, 1326] (by decide +kernel) (by decide +kernel)
set_option maxRecDepth 20000 in
theorem hL_X12_isWell_wsX120 : GoodIn wsL_lawB wsX120 := goodIn_r _ [1404, 1405, 1406, 1407, 1408, 1409, 1410, 1411, 1412, 1413, 1414] (by decide +kernel) (by decide +kernel)
set_option maxRecDepth 20000 in
theorem hL_X12_isWell_wsX60 : GoodIn wsL_lawB wsX60 := goodIn_r _ [1442, 1443, 1444, 1445, 1446, 1447, 1448, 1449, 1450, 1451] (by decide +kernel) (by decide +kernel)
set_option maxRecDepth 20000 in
theorem hL_X12_isWell_wsX70 : GoodIn wsL_lawB wsX70 := goodIn_r _ [1475, 1476, 1477, 1478, 1479] (by decide +kernel) (by decide +kernel)
set_option maxRecDepth 20000 in
theorem hL_X12_isWell_wsX40 : GoodIn wsL_lawB wsX40 := goodIn_r _ [1480, 1481] (by decide +kernel) (by decide +kernel)
set_option maxRecDepth 20000 in
theorem hL_X12_isWell_wsX10 : GoodIn wsL_lawB wsX10 := goodIn_r _ [1482, 1483, 1484, 1485] (by decide +kernel) (by decide +kernel)
set_option maxRecDepth 20000 in
theorem hL_X12_isWell_wsX90 : GoodIn wsL_lawB wsX90 := goodIn_r _ [1467, 1468] (by decide +kernel) (by decide +kernel)
set_option maxRecDepth 20000 in
theorem ggL_law_X12_isWell : GoodIn wsL_lawB wsX12_isWell := goodIn_cons hL_X12_isWell_c (goodIn_app (goodIn_app (goodIn_app (goodIn_app (goodIn_app (goodIn_app (goodIn_app hL_X12_isWell_wsX12_isWell_r1 (goodIn_app hL_X12_isWell_wsX12_isWell_r2 (goodIn_app hL_X12_isWell_wsX12_isWell_r3 (goodIn_app hL_X12_isWell_wsX12_isWell_r4 (goodIn_app hL_X12_isWell_wsX12_isWell_r5 (goodIn_app hL_X12_isWell_wsX12_isWell_r6 (goodIn_app hL_X12_isWell_wsX12_isWell_r7 hL_X12_isWell_wsX12_isWell_r8))))))) hL_X12_isWell_wsX120) hL_X12_isWell_wsX60) hL_X12_isWell_wsX70) hL_X12_isWell_wsX40) hL_X12_isWell_wsX10) hL_X12_isWell_wsX90)
set_option maxRecDepth 20000 in
theorem gL_law_X12_isWell : GoodIn wsL_lawB (wsV RL 155 RX12 yX12_isWell wsX12_isWell) := goodIn_app (goodIn_of _ (by decide +kernel)) ggL_law_X12_isWell
set_option maxRecDepth 20000 in
theorem ggL_law_X13_isWell : GoodIn wsL_lawB wsX13_isWell := goodIn_r _ [1330] (by decide +kernel) (by decide +kernel)
set_option maxRecDepth 20000 in
theorem gL_law_X13_isWell : GoodIn wsL_lawB (wsV RL 158 RX13 yX13_isWell wsX13_isWell) := goodIn_app (goodIn_of _ (by decide +kernel)) ggL_law_X13_isWell
set_option maxRecDepth 20000 in
theorem ggL_law_X12_meanPlants : GoodIn wsL_lawB wsX12_meanPlants := goodIn_r _ [1334, 15, 1335, 177, 178, 179, 14, 180, 49, 1404, 1405, 1406, 1407, 1408, 1409, 1410, 1411, 1412, 1413, 1414, 1442, 1443, 1444, 1445, 1446, 1447, 1448, 1449, 1450, 1451] (by decide +kernel) (by decide +kernel)
set_option maxRecDepth 20000 in
theorem gL_law_X12_meanPlants : GoodIn wsL_lawB (wsV RL 159 RX12 yX12_meanPlants wsX12_meanPlants) := goodIn_app (goodIn_of _ (by decide +kernel)) ggL_law_X12_meanPlants
set_option maxRecDepth 20000 in
theorem ggL_law_X13_meanPlants : GoodIn wsL_lawB wsX13_meanPlants := goodIn_r _ [1339, 1340, 214, 215, 216, 5, 217, 218, 219, 220, 221, 142, 1415, 1416, 1417, 1418, 1419, 1420, 1421, 1422, 1423, 1424, 1425, 1426, 1427, 1428, 1429, 1430, 1431, 1432, 1433, 1434, 1435, 1436, 1437, 1438, 1439, 1440, 1441] (by decide +kernel) (by decide +kernel)
set_option maxRecDepth 20000 in
theorem gL_law_X13_meanPlants : GoodIn wsL_lawB (wsV RL 163 RX13 yX13_meanPlants wsX13_meanPlants) := goodIn_app (goodIn_of _ (by decide +kernel)) ggL_law_X13_meanPlants
set_option maxRecDepth 20000 in
theorem ggL_law_X12_homeShare : GoodIn wsL_lawB wsX12_homeShare := goodIn_r _ [1344, 15, 773, 845, 1345, 1346, 1347, 61, 1348, 204, 78, 79, 1404, 1405, 1406, 1407, 1408, 1409, 1410, 1411, 1412, 1413, 1414, 1442, 1443, 1444, 1445, 1446, 1447, 1448, 1449, 1450, 1451, 1482, 1483, 1484, 1485] (by decide +kernel) (by decide +kernel)
set_option maxRecDepth 20000 in
theorem gL_law_X12_homeShare : GoodIn wsL_lawB (wsV RL 164 RX12 yX12_homeShare wsX12_homeShare) := goodIn_app (goodIn_of _ (by decide +kernel)) ggL_law_X12_homeShare
set_option maxRecDepth 20000 in
theorem ggL_law_X13_homeShare : GoodIn wsL_lawB wsX13_homeShare := goodIn_r _ [1352, 142, 1353, 1354, 1355, 5, 1356, 508, 509, 510, 511, 1415, 1416, 1417, 1418, 1419, 1420, 1421, 1422, 1423, 1424, 1425, 1426, 1427, 1428, 1429, 1430, 1431, 1432, 1433, 1434, 1435, 1436, 1437, 1438, 1439, 1440, 1441] (by decide +kernel) (by decide +kernel)
set_option maxRecDepth 20000 in
theorem gL_law_X13_homeShare : GoodIn wsL_lawB (wsV RL 168 RX13 yX13_homeShare wsX13_homeShare) := goodIn_app (goodIn_of _ (by decide +kernel)) ggL_law_X13_homeShare
set_option maxRecDepth 20000 in
theorem hL_X12_account_c : GoodIn wsL_lawB [Cond.code yX12_account cX12_account 2 (some .int)] := goodIn_r _ [1360] (by decide +kernel) (by decide +kernel)
set_option maxRecDepth 20000 in
theorem hL_X12_account_wsX12_account_r1 : GoodIn wsL_lawB wsX12_account_r1 := goodIn_r _ [15, 775, 889, 773, 845, 1361, 774, 1362, 1363, 1364, 1365, 26, 1366, 22, 1367, 177, 178, 179, 14, 180, 49, 901, 902, 779] (by decide +kernel) (by decide +kernel)
set_option maxRecDepth 20000 in
theorem hL_X12_account_wsX12_account_r2 : GoodIn wsL_lawB wsX12_account_r2 := goodIn_r _ [903, 781, 411, 412, 413, 409, 372, 286, 373, 414, 285, 287, 50, 54, 362, 363, 364, 53, 365, 193, 67, 68, 1345, 1346] (by decide +kernel) (by decide +kernel)
set_option maxRecDepth 20000 in
theorem hL_X12_account_wsX12_account_r3 : GoodIn wsL_lawB wsX12_account_r3 := goodIn_r _ [1347, 61, 1348, 204, 78, 79, 978, 979, 980, 57, 981, 982, 783, 784, 785, 427, 420, 421, 422, 73, 1368, 1369, 1370, 1371] (by decide +kernel) (by decide +kernel)
set_option maxRecDepth 20000 in
theorem hL_X12_account_wsX12_account_r4 : GoodIn wsL_lawB wsX12_account_r4 := goodIn_r _ [80] (by decide +kernel) (by decide +kernel)
set_option maxRecDepth 20000 in
theorem hL_X12_account_wsX120 : GoodIn wsL_lawB wsX120 := goodIn_r _ [1404, 1405, 1406, 1407, 1408, 1409, 1410, 1411, 1412, 1413, 1414] (by decide +kernel) (by decide +kernel)
set_option maxRecDepth 20000 in
theorem hL_X12_account_wsX60 : GoodIn wsL_lawB wsX60 := goodIn_r _ [1442, 1443, 1444, 1445, 1446, 1447, 1448, 1449, 1450, 1451] (by decide +kernel) (by decide +kernel)
set_option maxRecDepth 20000 in
theorem hL_X12_account_wsX70 : GoodIn wsL_lawB wsX70 := goodIn_r _ [1475, 1476, 1477, 1478, 1479] (by decide +kernel) (by decide +kernel)
set_option maxRecDepth 20000 in
theorem hL_X12_account_wsX10 : GoodIn wsL_lawB wsX10 := goodIn_r _ [1482, 1483, 1484, 1485] (by decide +kernel) (by decide +kernel)
set_option maxRecDepth 20000 in
theorem hL_X12_account_wsX100 : GoodIn wsL_lawB wsX100 := goodIn_r _ [1455, 1456, 1457, 1458, 1459, 1460, 1461, 1462] (by decide +kernel) (by decide +kernel)
set_option maxRecDepth 20000 in
theorem hL_X12_account_wsX50 : GoodIn wsL_lawB wsX50 := goodIn_r _ [1452, 1453, 1454] (by decide +kernel) (by decide +kernel)
set_option maxRecDepth 20000 in
theorem hL_X12_account_wsX40 : GoodIn wsL_lawB wsX40 := goodIn_r _ [1480, 1481] (by decide +kernel) (by decide +kernel)
set_option maxRecDepth 20000 in
theorem ggL_law_X12_account : GoodIn wsL_lawB wsX12_account := goodIn_cons hL_X12_account_c (goodIn_app (goodIn_app (goodIn_app (goodIn_app (goodIn_app (goodIn_app (goodIn_app (goodIn_app hL_X12_account_wsX12_account_r1 (goodIn_app hL_X12_account_wsX12_account_r2 (goodIn_app hL_X12_account_wsX12_account_r3 hL_X12_account_wsX12_account_r4))) hL_X12_account_wsX120) hL_X12_account_wsX60) hL_X12_account_wsX70) hL_X12_account_wsX10) hL_X12_account_wsX100) hL_X12_account_wsX50) hL_X12_account_wsX40)
set_option maxRecDepth 20000 in
theorem gL_law_X12_account : GoodIn wsL_lawB (wsV RL 169 RX12 yX12_account wsX12_account) := goodIn_app (goodIn_of _ (by decide +kernel)) ggL_law_X12_account
set_option maxRecDepth 20000 in
theorem hL_X13_account_c : GoodIn wsL_lawB [Cond.code yX13_account cX13_account 2 (some .int)] := goodIn_r _ [1375] (by decide +kernel) (by decide +kernel)
set_option maxRecDepth 20000 in
theorem hL_X13_account_wsX13_account_r1 : GoodIn wsL_lawB wsX13_account_r1 := goodIn_r _ [142, 163, 147, 214, 215, 216, 5, 217, 218, 219, 220, 221, 908, 909, 910, 911, 802, 803, 804, 805, 440, 441, 442, 443] (by decide +kernel) (by decide +kernel)
set_option maxRecDepth 20000 in
theorem hL_X13_account_wsX13_account_r2 : GoodIn wsL_lawB wsX13_account_r2 := goodIn_r _ [444, 445, 446, 447, 448, 449, 450, 389, 390, 391, 392, 393, 394, 395, 396, 1353, 1354, 1355, 1356, 508, 509, 510, 511, 987] (by decide +kernel) (by decide +kernel)
set_option maxRecDepth 20000 in
theorem hL_X13_account_wsX13_account_r3 : GoodIn wsL_lawB wsX13_account_r3 := goodIn_r _ [988, 989, 990, 806, 807, 808, 809, 451, 452, 453, 454] (by decide +kernel) (by decide +kernel)
set_option maxRecDepth 20000 in
theorem hL_X13_account_wsX130 : GoodIn wsL_lawB wsX130 := goodIn_r _ [1415, 1416, 1417, 1418, 1419, 1420, 1421, 1422, 1423, 1424, 1425, 1426, 1427, 1428, 1429, 1430, 1431, 1432, 1433, 1434, 1435, 1436, 1437, 1438, 1439, 1440, 1441] (by decide +kernel) (by decide +kernel)
set_option maxRecDepth 20000 in
theorem ggL_law_X13_account : GoodIn wsL_lawB wsX13_account := goodIn_cons hL_X13_account_c (goodIn_app (goodIn_app hL_X13_account_wsX13_account_r1 (goodIn_app hL_X13_account_wsX13_account_r2 hL_X13_account_wsX13_account_r3)) hL_X13_account_wsX130)
set_option maxRecDepth 20000 in
theorem gL_law_X13_account : GoodIn wsL_lawB (wsV RL 172 RX13 yX13_account wsX13_account) := goodIn_app (goodIn_of _ (by decide +kernel)) ggL_law_X13_account
set_option maxRecDepth 20000 in
theorem hL_X12_undo_c : GoodIn wsL_lawB [Cond.code yX12_undo cX12_undo 1 (some .int)] := goodIn_r _ [1379] (by decide +kernel) (by decide +kernel)
set_option maxRecDepth 20000 in
theorem hL_X12_undo_wsX12_undo_r1 : GoodIn wsL_lawB wsX12_undo_r1 := goodIn_r _ [22, 1367, 15, 1380, 1381, 1382, 21, 1383, 283, 209, 90, 288, 243, 244, 14, 245, 49, 246, 247, 248, 249, 50, 54, 58] (by decide +kernel) (by decide +kernel)
set_option maxRecDepth 20000 in
theorem hL_X12_undo_wsX12_undo_r2 : GoodIn wsL_lawB wsX12_undo_r2 := goodIn_r _ [62, 185, 186, 187, 188, 250, 251, 252, 53, 253, 67, 254, 68, 69, 193, 194, 255, 256, 257, 57, 258, 73, 259, 74] (by decide +kernel) (by decide +kernel)
set_option maxRecDepth 20000 in
theorem hL_X12_undo_wsX12_undo_r3 : GoodIn wsL_lawB wsX12_undo_r3 := goodIn_r _ [260, 261, 262, 61, 263, 78, 264, 79, 80, 204] (by decide +kernel) (by decide +kernel)
set_option maxRecDepth 20000 in
theorem hL_X12_undo_wsX120 : GoodIn wsL_lawB wsX120 := goodIn_r _ [1404, 1405, 1406, 1407, 1408, 1409, 1410, 1411, 1412, 1413, 1414] (by decide +kernel) (by decide +kernel)
set_option maxRecDepth 20000 in
theorem hL_X12_undo_wsX50 : GoodIn wsL_lawB wsX50 := goodIn_r _ [1452, 1453, 1454] (by decide +kernel) (by decide +kernel)
set_option maxRecDepth 20000 in
theorem hL_X12_undo_wsX60 : GoodIn wsL_lawB wsX60 := goodIn_r _ [1442, 1443, 1444, 1445, 1446, 1447, 1448, 1449, 1450, 1451] (by decide +kernel) (by decide +kernel)
set_option maxRecDepth 20000 in
theorem hL_X12_undo_wsX70 : GoodIn wsL_lawB wsX70 := goodIn_r _ [1475, 1476, 1477, 1478, 1479] (by decide +kernel) (by decide +kernel)
set_option maxRecDepth 20000 in
theorem hL_X12_undo_wsX40 : GoodIn wsL_lawB wsX40 := goodIn_r _ [1480, 1481] (by decide +kernel) (by decide +kernel)
set_option maxRecDepth 20000 in
theorem hL_X12_undo_wsX10 : GoodIn wsL_lawB wsX10 := goodIn_r _ [1482, 1483, 1484, 1485] (by decide +kernel) (by decide +kernel)
set_option maxRecDepth 20000 in
theorem ggL_law_X12_undo : GoodIn wsL_lawB wsX12_undo := goodIn_cons hL_X12_undo_c (goodIn_app (goodIn_app (goodIn_app (goodIn_app (goodIn_app (goodIn_app (goodIn_app hL_X12_undo_wsX12_undo_r1 (goodIn_app hL_X12_undo_wsX12_undo_r2 hL_X12_undo_wsX12_undo_r3)) hL_X12_undo_wsX120) hL_X12_undo_wsX50) hL_X12_undo_wsX60) hL_X12_undo_wsX70) hL_X12_undo_wsX40) hL_X12_undo_wsX10)
set_option maxRecDepth 20000 in
theorem gL_law_X12_undo : GoodIn wsL_lawB (wsV RL 173 RX12 yX12_undo wsX12_undo) := goodIn_app (goodIn_of _ (by decide +kernel)) ggL_law_X12_undo
set_option maxRecDepth 20000 in
theorem ggL_law_X13_undo : GoodIn wsL_lawB wsX13_undo := goodIn_r _ [1387, 147, 146, 142, 297, 298, 5, 299, 1415, 1416, 1417, 1418, 1419, 1420, 1421, 1422, 1423, 1424, 1425, 1426, 1427, 1428, 1429, 1430, 1431, 1432, 1433, 1434, 1435, 1436, 1437, 1438, 1439, 1440, 1441] (by decide +kernel) (by decide +kernel)
set_option maxRecDepth 20000 in
theorem gL_law_X13_undo : GoodIn wsL_lawB (wsV RL 176 RX13 yX13_undo wsX13_undo) := goodIn_app (goodIn_of _ (by decide +kernel)) ggL_law_X13_undo
set_option maxRecDepth 20000 in
theorem hL_X12_save_c : GoodIn wsL_lawB [Cond.code yX12_save cX12_save 1 (some .int)] := goodIn_r _ [1391] (by decide +kernel) (by decide +kernel)
set_option maxRecDepth 20000 in
theorem hL_X12_save_wsX12_save_r1 : GoodIn wsL_lawB wsX12_save_r1 := goodIn_r _ [17, 15, 18, 242, 243, 244, 14, 245, 49, 246, 247, 248, 249, 50, 54, 58, 62, 185, 186, 187, 188, 250, 251, 252] (by decide +kernel) (by decide +kernel)
set_option maxRecDepth 20000 in
theorem hL_X12_save_wsX12_save_r2 : GoodIn wsL_lawB wsX12_save_r2 := goodIn_r _ [53, 253, 67, 254, 68, 69, 193, 194, 255, 256, 257, 57, 258, 73, 259, 74, 260, 261, 262, 61, 263, 78, 264, 79] (by decide +kernel) (by decide +kernel)
set_option maxRecDepth 20000 in
theorem hL_X12_save_wsX12_save_r3 : GoodIn wsL_lawB wsX12_save_r3 := goodIn_r _ [80, 204, 177, 178, 179, 180] (by decide +kernel) (by decide +kernel)
set_option maxRecDepth 20000 in
theorem hL_X12_save_wsX120 : GoodIn wsL_lawB wsX120 := goodIn_r _ [1404, 1405, 1406, 1407, 1408, 1409, 1410, 1411, 1412, 1413, 1414] (by decide +kernel) (by decide +kernel)
set_option maxRecDepth 20000 in
theorem hL_X12_save_wsX60 : GoodIn wsL_lawB wsX60 := goodIn_r _ [1442, 1443, 1444, 1445, 1446, 1447, 1448, 1449, 1450, 1451] (by decide +kernel) (by decide +kernel)
set_option maxRecDepth 20000 in
theorem hL_X12_save_wsX70 : GoodIn wsL_lawB wsX70 := goodIn_r _ [1475, 1476, 1477, 1478, 1479] (by decide +kernel) (by decide +kernel)
set_option maxRecDepth 20000 in
theorem hL_X12_save_wsX40 : GoodIn wsL_lawB wsX40 := goodIn_r _ [1480, 1481] (by decide +kernel) (by decide +kernel)
set_option maxRecDepth 20000 in
theorem hL_X12_save_wsX10 : GoodIn wsL_lawB wsX10 := goodIn_r _ [1482, 1483, 1484, 1485] (by decide +kernel) (by decide +kernel)
set_option maxRecDepth 20000 in
theorem ggL_law_X12_save : GoodIn wsL_lawB wsX12_save := goodIn_cons hL_X12_save_c (goodIn_app (goodIn_app (goodIn_app (goodIn_app (goodIn_app (goodIn_app hL_X12_save_wsX12_save_r1 (goodIn_app hL_X12_save_wsX12_save_r2 hL_X12_save_wsX12_save_r3)) hL_X12_save_wsX120) hL_X12_save_wsX60) hL_X12_save_wsX70) hL_X12_save_wsX40) hL_X12_save_wsX10)
set_option maxRecDepth 20000 in
theorem gL_law_X12_save : GoodIn wsL_lawB (wsV RL 177 RX12 yX12_save wsX12_save) := goodIn_app (goodIn_of _ (by decide +kernel)) ggL_law_X12_save
set_option maxRecDepth 20000 in
theorem ggL_law_X13_save : GoodIn wsL_lawB wsX13_save := goodIn_r _ [1395, 142, 145, 155, 297, 298, 5, 299, 214, 215, 216, 217, 218, 219, 220, 221, 1415, 1416, 1417, 1418, 1419, 1420, 1421, 1422, 1423, 1424, 1425, 1426, 1427, 1428, 1429, 1430, 1431, 1432, 1433, 1434, 1435, 1436, 1437, 1438, 1439, 1440, 1441] (by decide +kernel) (by decide +kernel)
set_option maxRecDepth 20000 in
theorem gL_law_X13_save : GoodIn wsL_lawB (wsV RL 180 RX13 yX13_save wsX13_save) := goodIn_app (goodIn_of _ (by decide +kernel)) ggL_law_X13_save
set_option maxRecDepth 20000 in
theorem hL_X12_restore_c : GoodIn wsL_lawB [Cond.code yX12_restore cX12_restore 1 (some .int)] := goodIn_r _ [1399] (by decide +kernel) (by decide +kernel)
set_option maxRecDepth 20000 in
theorem hL_X12_restore_wsX12_restore_r1 : GoodIn wsL_lawB wsX12_restore_r1 := goodIn_r _ [18, 15, 17, 22, 242, 243, 244, 14, 245, 49, 246, 247, 248, 249, 50, 54, 58, 62, 185, 186, 187, 188, 250, 251] (by decide +kernel) (by decide +kernel)
set_option maxRecDepth 20000 in
theorem hL_X12_restore_wsX12_restore_r2 : GoodIn wsL_lawB wsX12_restore_r2 := goodIn_r _ [252, 53, 253, 67, 254, 68, 69, 193, 194, 255, 256, 257, 57, 258, 73, 259, 74, 260, 261, 262, 61, 263, 78, 264] (by decide +kernel) (by decide +kernel)
set_option maxRecDepth 20000 in
theorem hL_X12_restore_wsX12_restore_r3 : GoodIn wsL_lawB wsX12_restore_r3 := goodIn_r _ [79, 80, 204, 205, 206, 207, 21, 208, 209, 177, 178, 179, 180] (by decide +kernel) (by decide +kernel)
set_option maxRecDepth 20000 in
theorem hL_X12_restore_wsX120 : GoodIn wsL_lawB wsX120 := goodIn_r _ [1404, 1405, 1406, 1407, 1408, 1409, 1410, 1411, 1412, 1413, 1414] (by decide +kernel) (by decide +kernel)
set_option maxRecDepth 20000 in
theorem hL_X12_restore_wsX60 : GoodIn wsL_lawB wsX60 := goodIn_r _ [1442, 1443, 1444, 1445, 1446, 1447, 1448, 1449, 1450, 1451] (by decide +kernel) (by decide +kernel)
set_option maxRecDepth 20000 in
theorem hL_X12_restore_wsX70 : GoodIn wsL_lawB wsX70 := goodIn_r _ [1475, 1476, 1477, 1478, 1479] (by decide +kernel) (by decide +kernel)
set_option maxRecDepth 20000 in
theorem hL_X12_restore_wsX40 : GoodIn wsL_lawB wsX40 := goodIn_r _ [1480, 1481] (by decide +kernel) (by decide +kernel)
set_option maxRecDepth 20000 in
theorem hL_X12_restore_wsX10 : GoodIn wsL_lawB wsX10 := goodIn_r _ [1482, 1483, 1484, 1485] (by decide +kernel) (by decide +kernel)
set_option maxRecDepth 20000 in
theorem hL_X12_restore_wsX50 : GoodIn wsL_lawB wsX50 := goodIn_r _ [1452, 1453, 1454] (by decide +kernel) (by decide +kernel)
set_option maxRecDepth 20000 in
theorem ggL_law_X12_restore : GoodIn wsL_lawB wsX12_restore := goodIn_cons hL_X12_restore_c (goodIn_app (goodIn_app (goodIn_app (goodIn_app (goodIn_app (goodIn_app (goodIn_app hL_X12_restore_wsX12_restore_r1 (goodIn_app hL_X12_restore_wsX12_restore_r2 hL_X12_restore_wsX12_restore_r3)) hL_X12_restore_wsX120) hL_X12_restore_wsX60) hL_X12_restore_wsX70) hL_X12_restore_wsX40) hL_X12_restore_wsX10) hL_X12_restore_wsX50)
set_option maxRecDepth 20000 in
theorem gL_law_X12_restore : GoodIn wsL_lawB (wsV RL 181 RX12 yX12_restore wsX12_restore) := goodIn_app (goodIn_of _ (by decide +kernel)) ggL_law_X12_restore
set_option maxRecDepth 20000 in
theorem ggL_law_X13_restore : GoodIn wsL_lawB wsX13_restore := goodIn_r _ [1403, 155, 145, 142, 147, 297, 298, 5, 299, 214, 215, 216, 217, 218, 219, 220, 221, 1415, 1416, 1417, 1418, 1419, 1420, 1421, 1422, 1423, 1424, 1425, 1426, 1427, 1428, 1429, 1430, 1431, 1432, 1433, 1434, 1435, 1436, 1437, 1438, 1439, 1440, 1441] (by decide +kernel) (by decide +kernel)
set_option maxRecDepth 20000 in
theorem gL_law_X13_restore : GoodIn wsL_lawB (wsV RL 184 RX13 yX13_restore wsX13_restore) := goodIn_app (goodIn_of _ (by decide +kernel)) ggL_law_X13_restore
