/-! printed: the law's calls -/
set_option maxRecDepth 20000 in
theorem ggL_law_X12_excess : GoodIn wsL_lawB wsX12_excess := goodIn_r _ [938, 15, 939, 940, 779, 941, 923, 942, 372, 286, 373, 943, 944, 945, 919, 924, 946, 285, 287, 947, 363, 364, 53, 365, 193, 67, 68, 1404, 1405, 1406, 1407, 1408, 1409, 1410, 1411, 1412, 1413, 1414, 1442, 1443, 1444, 1445, 1446, 1447, 1448, 1449, 1450, 1451, 1475, 1476, 1477, 1478, 1479] (by decide +kernel) (by decide +kernel)
set_option maxRecDepth 20000 in
theorem gL_law_X12_excess : GoodIn wsL_lawB (wsV RL 99 RX12 yX12_excess wsX12_excess) := goodIn_app (goodIn_of _ (by decide +kernel)) ggL_law_X12_excess
set_option maxRecDepth 20000 in
theorem ggL_law_X13_excess : GoodIn wsL_lawB wsX13_excess := goodIn_r _ [951, 952, 953, 954, 5, 955, 956, 957, 958, 959, 142, 444, 445, 446, 447, 448, 449, 450, 218, 219, 220, 221, 389, 390, 391, 392, 393, 394, 395, 396, 1415, 1416, 1417, 1418, 1419, 1420, 1421, 1422, 1423, 1424, 1425, 1426, 1427, 1428, 1429, 1430, 1431, 1432, 1433, 1434, 1435, 1436, 1437, 1438, 1439, 1440, 1441] (by decide +kernel) (by decide +kernel)
set_option maxRecDepth 20000 in
theorem gL_law_X13_excess : GoodIn wsL_lawB (wsV RL 102 RX13 yX13_excess wsX13_excess) := goodIn_app (goodIn_of _ (by decide +kernel)) ggL_law_X13_excess
set_option maxRecDepth 20000 in
theorem hL_X12_excessAgain_c : GoodIn wsL_lawB [Cond.code yX12_excessAgain cX12_excessAgain 1 (some .int)] := goodIn_r _ [963] (by decide +kernel) (by decide +kernel)
set_option maxRecDepth 20000 in
theorem hL_X12_excessAgain_wsX12_excessAgain_r1 : GoodIn wsL_lawB wsX12_excessAgain_r1 := goodIn_r _ [16, 15, 242, 243, 244, 14, 245, 49, 246, 247, 248, 249, 50, 54, 58, 62, 185, 186, 187, 188, 250, 251, 252, 53] (by decide +kernel) (by decide +kernel)
set_option maxRecDepth 20000 in
theorem hL_X12_excessAgain_wsX12_excessAgain_r2 : GoodIn wsL_lawB wsX12_excessAgain_r2 := goodIn_r _ [253, 67, 254, 68, 69, 193, 194, 255, 256, 257, 57, 258, 73, 259, 74, 260, 261, 262, 61, 263, 78, 264, 79, 80] (by decide +kernel) (by decide +kernel)
set_option maxRecDepth 20000 in
theorem hL_X12_excessAgain_wsX12_excessAgain_r3 : GoodIn wsL_lawB wsX12_excessAgain_r3 := goodIn_r _ [204, 964, 965, 779, 966, 923, 967, 968, 969, 781, 411, 412, 413, 409, 372, 286, 373, 414, 285, 287, 362, 363, 364, 365] (by decide +kernel) (by decide +kernel)
set_option maxRecDepth 20000 in
theorem hL_X12_excessAgain_wsX120 : GoodIn wsL_lawB wsX120 := goodIn_r _ [1404, 1405, 1406, 1407, 1408, 1409, 1410, 1411, 1412, 1413, 1414] (by decide +kernel) (by decide +kernel)
set_option maxRecDepth 20000 in
theorem hL_X12_excessAgain_wsX60 : GoodIn wsL_lawB wsX60 := goodIn_r _ [1442, 1443, 1444, 1445, 1446, 1447, 1448, 1449, 1450, 1451] (by decide +kernel) (by decide +kernel)
set_option maxRecDepth 20000 in
theorem hL_X12_excessAgain_wsX70 : GoodIn wsL_lawB wsX70 := goodIn_r _ [1475, 1476, 1477, 1478, 1479] (by decide +kernel) (by decide +kernel)
set_option maxRecDepth 20000 in
theorem hL_X12_excessAgain_wsX40 : GoodIn wsL_lawB wsX40 := goodIn_r _ [1480, 1481] (by decide +kernel) (by decide +kernel)
set_option maxRecDepth 20000 in
theorem hL_X12_excessAgain_wsX10 : GoodIn wsL_lawB wsX10 := goodIn_r _ [1482, 1483, 1484, 1485] (by decide +kernel) (by decide +kernel)
set_option maxRecDepth 20000 in
theorem ggL_law_X12_excessAgain : GoodIn wsL_lawB wsX12_excessAgain := goodIn_cons hL_X12_excessAgain_c (goodIn_app (goodIn_app (goodIn_app (goodIn_app (goodIn_app (goodIn_app hL_X12_excessAgain_wsX12_excessAgain_r1 (goodIn_app hL_X12_excessAgain_wsX12_excessAgain_r2 hL_X12_excessAgain_wsX12_excessAgain_r3)) hL_X12_excessAgain_wsX120) hL_X12_excessAgain_wsX60) hL_X12_excessAgain_wsX70) hL_X12_excessAgain_wsX40) hL_X12_excessAgain_wsX10)
set_option maxRecDepth 20000 in
theorem gL_law_X12_excessAgain : GoodIn wsL_lawB (wsV RL 103 RX12 yX12_excessAgain wsX12_excessAgain) := goodIn_app (goodIn_of _ (by decide +kernel)) ggL_law_X12_excessAgain
set_option maxRecDepth 20000 in
theorem ggL_law_X13_excessAgain : GoodIn wsL_lawB wsX13_excessAgain := goodIn_r _ [973, 952, 953, 954, 5, 955, 956, 957, 958, 959, 142, 444, 445, 446, 447, 448, 449, 450, 218, 219, 220, 221, 389, 390, 391, 392, 393, 394, 395, 396, 1415, 1416, 1417, 1418, 1419, 1420, 1421, 1422, 1423, 1424, 1425, 1426, 1427, 1428, 1429, 1430, 1431, 1432, 1433, 1434, 1435, 1436, 1437, 1438, 1439, 1440, 1441] (by decide +kernel) (by decide +kernel)
set_option maxRecDepth 20000 in
theorem gL_law_X13_excessAgain : GoodIn wsL_lawB (wsV RL 106 RX13 yX13_excessAgain wsX13_excessAgain) := goodIn_app (goodIn_of _ (by decide +kernel)) ggL_law_X13_excessAgain
set_option maxRecDepth 20000 in
theorem ggL_law_X12_census : GoodIn wsL_lawB wsX12_census := goodIn_r _ [977, 15, 774, 978, 979, 980, 57, 981, 982, 783, 784, 785, 427, 420, 421, 422, 73, 1404, 1405, 1406, 1407, 1408, 1409, 1410, 1411, 1412, 1413, 1414, 1442, 1443, 1444, 1445, 1446, 1447, 1448, 1449, 1450, 1451, 1480, 1481] (by decide +kernel) (by decide +kernel)
set_option maxRecDepth 20000 in
theorem gL_law_X12_census : GoodIn wsL_lawB (wsV RL 107 RX12 yX12_census wsX12_census) := goodIn_app (goodIn_of _ (by decide +kernel)) ggL_law_X12_census
set_option maxRecDepth 20000 in
theorem ggL_law_X13_census : GoodIn wsL_lawB wsX13_census := goodIn_r _ [986, 987, 988, 989, 5, 990, 806, 807, 808, 809, 451, 452, 453, 454, 142, 1415, 1416, 1417, 1418, 1419, 1420, 1421, 1422, 1423, 1424, 1425, 1426, 1427, 1428, 1429, 1430, 1431, 1432, 1433, 1434, 1435, 1436, 1437, 1438, 1439, 1440, 1441] (by decide +kernel) (by decide +kernel)
set_option maxRecDepth 20000 in
theorem gL_law_X13_census : GoodIn wsL_lawB (wsV RL 110 RX13 yX13_census wsX13_census) := goodIn_app (goodIn_of _ (by decide +kernel)) ggL_law_X13_census
set_option maxRecDepth 20000 in
theorem ggL_law_X12_censusAgain : GoodIn wsL_lawB wsX12_censusAgain := goodIn_r _ [994, 15, 774, 995, 996, 997, 57, 998, 999, 787, 788, 789, 427, 420, 421, 422, 73, 1404, 1405, 1406, 1407, 1408, 1409, 1410, 1411, 1412, 1413, 1414, 1442, 1443, 1444, 1445, 1446, 1447, 1448, 1449, 1450, 1451, 1480, 1481] (by decide +kernel) (by decide +kernel)
set_option maxRecDepth 20000 in
theorem gL_law_X12_censusAgain : GoodIn wsL_lawB (wsV RL 111 RX12 yX12_censusAgain wsX12_censusAgain) := goodIn_app (goodIn_of _ (by decide +kernel)) ggL_law_X12_censusAgain
set_option maxRecDepth 20000 in
theorem ggL_law_X13_censusAgain : GoodIn wsL_lawB wsX13_censusAgain := goodIn_r _ [1003, 987, 988, 989, 5, 990, 806, 807, 808, 809, 451, 452, 453, 454, 142, 1415, 1416, 1417, 1418, 1419, 1420, 1421, 1422, 1423, 1424, 1425, 1426, 1427, 1428, 1429, 1430, 1431, 1432, 1433, 1434, 1435, 1436, 1437, 1438, 1439, 1440, 1441] (by decide +kernel) (by decide +kernel)
set_option maxRecDepth 20000 in
theorem gL_law_X13_censusAgain : GoodIn wsL_lawB (wsV RL 114 RX13 yX13_censusAgain wsX13_censusAgain) := goodIn_app (goodIn_of _ (by decide +kernel)) ggL_law_X13_censusAgain
set_option maxRecDepth 20000 in
theorem hL_X12_steps_c : GoodIn wsL_lawB [Cond.code yX12_steps cX12_steps 3 (some .int)] := goodIn_r _ [1007] (by decide +kernel) (by decide +kernel)
set_option maxRecDepth 20000 in
theorem hL_X12_steps_wsX12_steps_r1 : GoodIn wsL_lawB wsX12_steps_r1 := goodIn_r _ [34, 15, 849, 826, 359, 2, 360, 361, 269, 270, 850, 851, 852, 33, 853, 111, 854, 82, 83, 84, 855, 856, 857, 858] (by decide +kernel) (by decide +kernel)
set_option maxRecDepth 20000 in
theorem hL_X12_steps_wsX12_steps_r2 : GoodIn wsL_lawB wsX12_steps_r2 := goodIn_r _ [859, 860, 861, 14, 862, 863, 864, 865, 410, 411, 412, 413, 409, 372, 286, 373, 414, 285, 287, 49, 50, 54, 362, 363] (by decide +kernel) (by decide +kernel)
set_option maxRecDepth 20000 in
theorem hL_X12_steps_wsX12_steps_r3 : GoodIn wsL_lawB wsX12_steps_r3 := goodIn_r _ [364, 53, 365, 193, 67, 68] (by decide +kernel) (by decide +kernel)
set_option maxRecDepth 20000 in
theorem hL_X12_steps_wsX120 : GoodIn wsL_lawB wsX120 := goodIn_r _ [1404, 1405, 1406, 1407, 1408, 1409, 1410, 1411, 1412, 1413, 1414] (by decide +kernel) (by decide +kernel)
set_option maxRecDepth 20000 in
theorem hL_X12_steps_wsX90 : GoodIn wsL_lawB wsX90 := goodIn_r _ [1467, 1468] (by decide +kernel) (by decide +kernel)
set_option maxRecDepth 20000 in
theorem hL_X12_steps_wsX60 : GoodIn wsL_lawB wsX60 := goodIn_r _ [1442, 1443, 1444, 1445, 1446, 1447, 1448, 1449, 1450, 1451] (by decide +kernel) (by decide +kernel)
set_option maxRecDepth 20000 in
theorem hL_X12_steps_wsX70 : GoodIn wsL_lawB wsX70 := goodIn_r _ [1475, 1476, 1477, 1478, 1479] (by decide +kernel) (by decide +kernel)
set_option maxRecDepth 20000 in
theorem ggL_law_X12_steps : GoodIn wsL_lawB wsX12_steps := goodIn_cons hL_X12_steps_c (goodIn_app (goodIn_app (goodIn_app (goodIn_app (goodIn_app hL_X12_steps_wsX12_steps_r1 (goodIn_app hL_X12_steps_wsX12_steps_r2 hL_X12_steps_wsX12_steps_r3)) hL_X12_steps_wsX120) hL_X12_steps_wsX90) hL_X12_steps_wsX60) hL_X12_steps_wsX70)
set_option maxRecDepth 20000 in
theorem gL_law_X12_steps : GoodIn wsL_lawB (wsV RL 115 RX12 yX12_steps wsX12_steps) := goodIn_app (goodIn_of _ (by decide +kernel)) ggL_law_X12_steps
set_option maxRecDepth 20000 in
theorem hL_X13_steps_c : GoodIn wsL_lawB [Cond.code yX13_steps cX13_steps 3 (some .int)] := goodIn_r _ [1011] (by decide +kernel) (by decide +kernel)
set_option maxRecDepth 20000 in
theorem hL_X13_steps_wsX13_steps_r1 : GoodIn wsL_lawB wsX13_steps_r1 := goodIn_r _ [378, 379, 5, 380, 300, 301, 302, 235, 236, 237, 870, 871, 872, 873, 156, 874, 875, 876, 877, 157, 878, 879, 880, 881] (by decide +kernel) (by decide +kernel)
set_option maxRecDepth 20000 in
theorem hL_X13_steps_wsX13_steps_r2 : GoodIn wsL_lawB wsX13_steps_r2 := goodIn_r _ [882, 883, 884, 440, 441, 442, 443, 444, 445, 446, 447, 142, 448, 449, 450, 218, 219, 220, 221, 389, 390, 391, 392, 393] (by decide +kernel) (by decide +kernel)
set_option maxRecDepth 20000 in
theorem hL_X13_steps_wsX13_steps_r3 : GoodIn wsL_lawB wsX13_steps_r3 := goodIn_r _ [394, 395, 396] (by decide +kernel) (by decide +kernel)
set_option maxRecDepth 20000 in
theorem hL_X13_steps_wsX130 : GoodIn wsL_lawB wsX130 := goodIn_r _ [1415, 1416, 1417, 1418, 1419, 1420, 1421, 1422, 1423, 1424, 1425, 1426, 1427, 1428, 1429, 1430, 1431, 1432, 1433, 1434, 1435, 1436, 1437, 1438, 1439, 1440, 1441] (by decide +kernel) (by decide +kernel)
set_option maxRecDepth 20000 in
theorem ggL_law_X13_steps : GoodIn wsL_lawB wsX13_steps := goodIn_cons hL_X13_steps_c (goodIn_app (goodIn_app hL_X13_steps_wsX13_steps_r1 (goodIn_app hL_X13_steps_wsX13_steps_r2 hL_X13_steps_wsX13_steps_r3)) hL_X13_steps_wsX130)
set_option maxRecDepth 20000 in
theorem gL_law_X13_steps : GoodIn wsL_lawB (wsV RL 118 RX13 yX13_steps wsX13_steps) := goodIn_app (goodIn_of _ (by decide +kernel)) ggL_law_X13_steps
set_option maxRecDepth 20000 in
theorem hL_X12_stepsAgain_c : GoodIn wsL_lawB [Cond.code yX12_stepsAgain cX12_stepsAgain 3 (some .int)] := goodIn_r _ [1015] (by decide +kernel) (by decide +kernel)
set_option maxRecDepth 20000 in
theorem hL_X12_stepsAgain_wsX12_stepsAgain_r1 : GoodIn wsL_lawB wsX12_stepsAgain_r1 := goodIn_r _ [34, 15, 1016, 826, 359, 2, 360, 361, 269, 270, 1017, 1018, 1019, 33, 1020, 112, 854, 82, 83, 84, 1021, 1022, 1023, 1024] (by decide +kernel) (by decide +kernel)
set_option maxRecDepth 20000 in
theorem hL_X12_stepsAgain_wsX12_stepsAgain_r2 : GoodIn wsL_lawB wsX12_stepsAgain_r2 := goodIn_r _ [859, 860, 861, 14, 862, 863, 864, 865, 410, 411, 412, 413, 409, 372, 286, 373, 414, 285, 287, 49, 50, 54, 362, 363] (by decide +kernel) (by decide +kernel)
set_option maxRecDepth 20000 in
theorem hL_X12_stepsAgain_wsX12_stepsAgain_r3 : GoodIn wsL_lawB wsX12_stepsAgain_r3 := goodIn_r _ [364, 53, 365, 193, 67, 68] (by decide +kernel) (by decide +kernel)
set_option maxRecDepth 20000 in
theorem hL_X12_stepsAgain_wsX120 : GoodIn wsL_lawB wsX120 := goodIn_r _ [1404, 1405, 1406, 1407, 1408, 1409, 1410, 1411, 1412, 1413, 1414] (by decide +kernel) (by decide +kernel)
set_option maxRecDepth 20000 in
theorem hL_X12_stepsAgain_wsX90 : GoodIn wsL_lawB wsX90 := goodIn_r _ [1467, 1468] (by decide +kernel) (by decide +kernel)
set_option maxRecDepth 20000 in
theorem hL_X12_stepsAgain_wsX60 : GoodIn wsL_lawB wsX60 := goodIn_r _ [1442, 1443, 1444, 1445, 1446, 1447, 1448, 1449, 1450, 1451] (by decide +kernel) (by decide +kernel)
set_option maxRecDepth 20000 in
theorem hL_X12_stepsAgain_wsX70 : GoodIn wsL_lawB wsX70 := goodIn_r _ [1475, 1476, 1477, 1478, 1479] (by decide +kernel) (by decide +kernel)
set_option maxRecDepth 20000 in
theorem ggL_law_X12_stepsAgain : GoodIn wsL_lawB wsX12_stepsAgain := goodIn_cons hL_X12_stepsAgain_c (goodIn_app (goodIn_app (goodIn_app (goodIn_app (goodIn_app hL_X12_stepsAgain_wsX12_stepsAgain_r1 (goodIn_app hL_X12_stepsAgain_wsX12_stepsAgain_r2 hL_X12_stepsAgain_wsX12_stepsAgain_r3)) hL_X12_stepsAgain_wsX120) hL_X12_stepsAgain_wsX90) hL_X12_stepsAgain_wsX60) hL_X12_stepsAgain_wsX70)
set_option maxRecDepth 20000 in
theorem gL_law_X12_stepsAgain : GoodIn wsL_lawB (wsV RL 119 RX12 yX12_stepsAgain wsX12_stepsAgain) := goodIn_app (goodIn_of _ (by decide +kernel)) ggL_law_X12_stepsAgain
set_option maxRecDepth 20000 in
theorem hL_X13_stepsAgain_c : GoodIn wsL_lawB [Cond.code yX13_stepsAgain cX13_stepsAgain 3 (some .int)] := goodIn_r _ [1028] (by decide +kernel) (by decide +kernel)
set_option maxRecDepth 20000 in
theorem hL_X13_stepsAgain_wsX13_stepsAgain_r1 : GoodIn wsL_lawB wsX13_stepsAgain_r1 := goodIn_r _ [378, 379, 5, 380, 300, 301, 302, 235, 236, 237, 870, 871, 872, 873, 156, 874, 875, 876, 877, 157, 878, 879, 880, 881] (by decide +kernel) (by decide +kernel)
set_option maxRecDepth 20000 in
theorem hL_X13_stepsAgain_wsX13_stepsAgain_r2 : GoodIn wsL_lawB wsX13_stepsAgain_r2 := goodIn_r _ [882, 883, 884, 440, 441, 442, 443, 444, 445, 446, 447, 142, 448, 449, 450, 218, 219, 220, 221, 389, 390, 391, 392, 393] (by decide +kernel) (by decide +kernel)
set_option maxRecDepth 20000 in
theorem hL_X13_stepsAgain_wsX13_stepsAgain_r3 : GoodIn wsL_lawB wsX13_stepsAgain_r3 := goodIn_r _ [394, 395, 396] (by decide +kernel) (by decide +kernel)
set_option maxRecDepth 20000 in
theorem hL_X13_stepsAgain_wsX130 : GoodIn wsL_lawB wsX130 := goodIn_r _ [1415, 1416, 1417, 1418, 1419, 1420, 1421, 1422, 1423, 1424, 1425, 1426, 1427, 1428, 1429, 1430, 1431, 1432, 1433, 1434, 1435, 1436, 1437, 1438, 1439, 1440, 1441] (by decide +kernel) (by decide +kernel)
set_option maxRecDepth 20000 in
theorem ggL_law_X13_stepsAgain : GoodIn wsL_lawB wsX13_stepsAgain := goodIn_cons hL_X13_stepsAgain_c (goodIn_app (goodIn_app hL_X13_stepsAgain_wsX13_stepsAgain_r1 (goodIn_app hL_X13_stepsAgain_wsX13_stepsAgain_r2 hL_X13_stepsAgain_wsX13_stepsAgain_r3)) hL_X13_stepsAgain_wsX130)
set_option maxRecDepth 20000 in
theorem gL_law_X13_stepsAgain : GoodIn wsL_lawB (wsV RL 122 RX13 yX13_stepsAgain wsX13_stepsAgain) := goodIn_app (goodIn_of _ (by decide +kernel)) ggL_law_X13_stepsAgain
set_option maxRecDepth 20000 in
theorem hL_X12_way_c : GoodIn wsL_lawB [Cond.code yX12_way cX12_way 4 (some .int)] := goodIn_r _ [1032] (by decide +kernel) (by decide +kernel)
set_option maxRecDepth 20000 in
theorem hL_X12_way_wsX12_way_r1 : GoodIn wsL_lawB wsX12_way_r1 := goodIn_r _ [34, 15, 826, 359, 2, 360, 361, 269, 270, 1033, 1034, 1035, 33, 1036, 111, 1037, 851, 852, 853, 854, 82, 83, 84, 855] (by decide +kernel) (by decide +kernel)
set_option maxRecDepth 20000 in
theorem hL_X12_way_wsX12_way_r2 : GoodIn wsL_lawB wsX12_way_r2 := goodIn_r _ [856, 857, 858, 859, 860, 861, 14, 862, 863, 864, 865, 410, 411, 412, 413, 409, 372, 286, 373, 414, 285, 287, 49, 50] (by decide +kernel) (by decide +kernel)
set_option maxRecDepth 20000 in
theorem hL_X12_way_wsX12_way_r3 : GoodIn wsL_lawB wsX12_way_r3 := goodIn_r _ [54, 362, 363, 364, 53, 365, 193, 67, 68, 1038, 1039, 1040, 1041] (by decide +kernel) (by decide +kernel)
set_option maxRecDepth 20000 in
theorem hL_X12_way_wsX120 : GoodIn wsL_lawB wsX120 := goodIn_r _ [1404, 1405, 1406, 1407, 1408, 1409, 1410, 1411, 1412, 1413, 1414] (by decide +kernel) (by decide +kernel)
set_option maxRecDepth 20000 in
theorem hL_X12_way_wsX90 : GoodIn wsL_lawB wsX90 := goodIn_r _ [1467, 1468] (by decide +kernel) (by decide +kernel)
set_option maxRecDepth 20000 in
theorem hL_X12_way_wsX60 : GoodIn wsL_lawB wsX60 := goodIn_r _ [1442, 1443, 1444, 1445, 1446, 1447, 1448, 1449, 1450, 1451] (by decide +kernel) (by decide +kernel)
set_option maxRecDepth 20000 in
theorem hL_X12_way_wsX70 : GoodIn wsL_lawB wsX70 := goodIn_r _ [1475, 1476, 1477, 1478, 1479] (by decide +kernel) (by decide +kernel)
set_option maxRecDepth 20000 in
theorem ggL_law_X12_way : GoodIn wsL_lawB wsX12_way := goodIn_cons hL_X12_way_c (goodIn_app (goodIn_app (goodIn_app (goodIn_app (goodIn_app hL_X12_way_wsX12_way_r1 (goodIn_app hL_X12_way_wsX12_way_r2 hL_X12_way_wsX12_way_r3)) hL_X12_way_wsX120) hL_X12_way_wsX90) hL_X12_way_wsX60) hL_X12_way_wsX70)
set_option maxRecDepth 20000 in
theorem gL_law_X12_way : GoodIn wsL_lawB (wsV RL 123 RX12 yX12_way wsX12_way) := goodIn_app (goodIn_of _ (by decide +kernel)) ggL_law_X12_way
set_option maxRecDepth 20000 in
theorem hL_X13_way_c : GoodIn wsL_lawB [Cond.code yX13_way cX13_way 7 (some .int)] := goodIn_r _ [1045] (by decide +kernel) (by decide +kernel)
set_option maxRecDepth 20000 in
theorem hL_X13_way_wsX13_way_r1 : GoodIn wsL_lawB wsX13_way_r1 := goodIn_r _ [378, 379, 5, 380, 300, 301, 302, 235, 236, 237, 870, 871, 872, 873, 156, 874, 875, 876, 877, 157, 878, 879, 880, 881] (by decide +kernel) (by decide +kernel)
set_option maxRecDepth 20000 in
theorem hL_X13_way_wsX13_way_r2 : GoodIn wsL_lawB wsX13_way_r2 := goodIn_r _ [882, 883, 884, 440, 441, 442, 443, 444, 445, 446, 447, 142, 448, 449, 450, 218, 219, 220, 221, 389, 390, 391, 392, 393] (by decide +kernel) (by decide +kernel)
set_option maxRecDepth 20000 in
theorem hL_X13_way_wsX13_way_r3 : GoodIn wsL_lawB wsX13_way_r3 := goodIn_r _ [394, 395, 396, 1046, 1047, 1048, 1049] (by decide +kernel) (by decide +kernel)
set_option maxRecDepth 20000 in
theorem hL_X13_way_wsX130 : GoodIn wsL_lawB wsX130 := goodIn_r _ [1415, 1416, 1417, 1418, 1419, 1420, 1421, 1422, 1423, 1424, 1425, 1426, 1427, 1428, 1429, 1430, 1431, 1432, 1433, 1434, 1435, 1436, 1437, 1438, 1439, 1440, 1441] (by decide +kernel) (by decide +kernel)
set_option maxRecDepth 20000 in
theorem ggL_law_X13_way : GoodIn wsL_lawB wsX13_way := goodIn_cons hL_X13_way_c (goodIn_app (goodIn_app hL_X13_way_wsX13_way_r1 (goodIn_app hL_X13_way_wsX13_way_r2 hL_X13_way_wsX13_way_r3)) hL_X13_way_wsX130)
set_option maxRecDepth 20000 in
theorem gL_law_X13_way : GoodIn wsL_lawB (wsV RL 126 RX13 yX13_way wsX13_way) := goodIn_app (goodIn_of _ (by decide +kernel)) ggL_law_X13_way
