/-! printed: the law's calls -/
set_option maxRecDepth 20000 in
theorem hL_X12_balconyOf_c : GoodIn wsL_lawB [Cond.code yX12_balconyOf cX12_balconyOf 3 (some .int)] := goodIn_r _ [770] (by decide +kernel) (by decide +kernel)
set_option maxRecDepth 20000 in
theorem hL_X12_balconyOf_wsX12_balconyOf_r1 : GoodIn wsL_lawB wsX12_balconyOf_r1 := goodIn_r _ [15, 771, 772, 773, 774, 775, 361, 269, 2, 270, 776, 489, 490, 61, 491, 204, 78, 777, 778, 779, 780, 781, 411, 412] (by decide +kernel) (by decide +kernel)
set_option maxRecDepth 20000 in
theorem hL_X12_balconyOf_wsX12_balconyOf_r2 : GoodIn wsL_lawB wsX12_balconyOf_r2 := goodIn_r _ [14, 413, 409, 372, 286, 373, 414, 285, 287, 49, 50, 54, 362, 363, 364, 53, 365, 193, 67, 68, 782, 783, 784, 57] (by decide +kernel) (by decide +kernel)
set_option maxRecDepth 20000 in
theorem hL_X12_balconyOf_wsX12_balconyOf_r3 : GoodIn wsL_lawB wsX12_balconyOf_r3 := goodIn_r _ [785, 427, 420, 421, 422, 73, 786, 787, 788, 789, 790, 791, 792, 793, 794, 795, 796, 797] (by decide +kernel) (by decide +kernel)
set_option maxRecDepth 20000 in
theorem hL_X12_balconyOf_wsX120 : GoodIn wsL_lawB wsX120 := goodIn_r _ [1404, 1405, 1406, 1407, 1408, 1409, 1410, 1411, 1412, 1413, 1414] (by decide +kernel) (by decide +kernel)
set_option maxRecDepth 20000 in
theorem hL_X12_balconyOf_wsX60 : GoodIn wsL_lawB wsX60 := goodIn_r _ [1442, 1443, 1444, 1445, 1446, 1447, 1448, 1449, 1450, 1451] (by decide +kernel) (by decide +kernel)
set_option maxRecDepth 20000 in
theorem hL_X12_balconyOf_wsX10 : GoodIn wsL_lawB wsX10 := goodIn_r _ [1482, 1483, 1484, 1485] (by decide +kernel) (by decide +kernel)
set_option maxRecDepth 20000 in
theorem hL_X12_balconyOf_wsX70 : GoodIn wsL_lawB wsX70 := goodIn_r _ [1475, 1476, 1477, 1478, 1479] (by decide +kernel) (by decide +kernel)
set_option maxRecDepth 20000 in
theorem hL_X12_balconyOf_wsX40 : GoodIn wsL_lawB wsX40 := goodIn_r _ [1480, 1481] (by decide +kernel) (by decide +kernel)
set_option maxRecDepth 20000 in
theorem ggL_law_X12_balconyOf : GoodIn wsL_lawB wsX12_balconyOf := goodIn_cons hL_X12_balconyOf_c (goodIn_app (goodIn_app (goodIn_app (goodIn_app (goodIn_app (goodIn_app hL_X12_balconyOf_wsX12_balconyOf_r1 (goodIn_app hL_X12_balconyOf_wsX12_balconyOf_r2 hL_X12_balconyOf_wsX12_balconyOf_r3)) hL_X12_balconyOf_wsX120) hL_X12_balconyOf_wsX60) hL_X12_balconyOf_wsX10) hL_X12_balconyOf_wsX70) hL_X12_balconyOf_wsX40)
set_option maxRecDepth 20000 in
theorem gL_law_X12_balconyOf : GoodIn wsL_lawB (wsV RL 71 RX12 yX12_balconyOf wsX12_balconyOf) := goodIn_app (goodIn_of _ (by decide +kernel)) ggL_law_X12_balconyOf
set_option maxRecDepth 20000 in
theorem hL_X13_balconyOf_c : GoodIn wsL_lawB [Cond.code yX13_balconyOf cX13_balconyOf 3 (some .int)] := goodIn_r _ [801] (by decide +kernel) (by decide +kernel)
set_option maxRecDepth 20000 in
theorem hL_X13_balconyOf_wsX13_balconyOf_r1 : GoodIn wsL_lawB wsX13_balconyOf_r1 := goodIn_r _ [142, 300, 301, 5, 302, 235, 236, 237, 218, 219, 220, 221, 504, 505, 506, 507, 508, 509, 510, 511, 802, 803, 804, 805] (by decide +kernel) (by decide +kernel)
set_option maxRecDepth 20000 in
theorem hL_X13_balconyOf_wsX13_balconyOf_r2 : GoodIn wsL_lawB wsX13_balconyOf_r2 := goodIn_r _ [440, 441, 442, 443, 444, 445, 446, 447, 448, 449, 450, 389, 390, 391, 392, 393, 394, 395, 396, 806, 807, 808, 809, 451] (by decide +kernel) (by decide +kernel)
set_option maxRecDepth 20000 in
theorem hL_X13_balconyOf_wsX13_balconyOf_r3 : GoodIn wsL_lawB wsX13_balconyOf_r3 := goodIn_r _ [452, 453, 454, 810, 811, 812, 813, 814, 815, 816, 817, 818, 819, 820, 821] (by decide +kernel) (by decide +kernel)
set_option maxRecDepth 20000 in
theorem hL_X13_balconyOf_wsX130 : GoodIn wsL_lawB wsX130 := goodIn_r _ [1415, 1416, 1417, 1418, 1419, 1420, 1421, 1422, 1423, 1424, 1425, 1426, 1427, 1428, 1429, 1430, 1431, 1432, 1433, 1434, 1435, 1436, 1437, 1438, 1439, 1440, 1441] (by decide +kernel) (by decide +kernel)
set_option maxRecDepth 20000 in
theorem ggL_law_X13_balconyOf : GoodIn wsL_lawB wsX13_balconyOf := goodIn_cons hL_X13_balconyOf_c (goodIn_app (goodIn_app hL_X13_balconyOf_wsX13_balconyOf_r1 (goodIn_app hL_X13_balconyOf_wsX13_balconyOf_r2 hL_X13_balconyOf_wsX13_balconyOf_r3)) hL_X13_balconyOf_wsX130)
set_option maxRecDepth 20000 in
theorem gL_law_X13_balconyOf : GoodIn wsL_lawB (wsV RL 74 RX13 yX13_balconyOf wsX13_balconyOf) := goodIn_app (goodIn_of _ (by decide +kernel)) ggL_law_X13_balconyOf
set_option maxRecDepth 20000 in
theorem ggL_law_X12_feud : GoodIn wsL_lawB wsX12_feud := goodIn_r _ [825, 15, 826, 359, 2, 360, 361, 269, 270, 827, 411, 412, 14, 413, 409, 372, 286, 373, 414, 285, 287, 49, 50, 54, 362, 363, 364, 53, 365, 193, 67, 68, 1404, 1405, 1406, 1407, 1408, 1409, 1410, 1411, 1412, 1413, 1414, 1442, 1443, 1444, 1445, 1446, 1447, 1448, 1449, 1450, 1451, 1475, 1476, 1477, 1478, 1479] (by decide +kernel) (by decide +kernel)
set_option maxRecDepth 20000 in
theorem gL_law_X12_feud : GoodIn wsL_lawB (wsV RL 75 RX12 yX12_feud wsX12_feud) := goodIn_app (goodIn_of _ (by decide +kernel)) ggL_law_X12_feud
set_option maxRecDepth 20000 in
theorem hL_X13_feud_c : GoodIn wsL_lawB [Cond.code yX13_feud cX13_feud 3 (some .int)] := goodIn_r _ [831] (by decide +kernel) (by decide +kernel)
set_option maxRecDepth 20000 in
theorem hL_X13_feud_wsX13_feud_r1 : GoodIn wsL_lawB wsX13_feud_r1 := goodIn_r _ [378, 379, 5, 380, 300, 301, 302, 235, 236, 237, 440, 441, 442, 443, 444, 445, 446, 447, 142, 448, 449, 450, 218, 219] (by decide +kernel) (by decide +kernel)
set_option maxRecDepth 20000 in
theorem hL_X13_feud_wsX13_feud_r2 : GoodIn wsL_lawB wsX13_feud_r2 := goodIn_r _ [220, 221, 389, 390, 391, 392, 393, 394, 395, 396] (by decide +kernel) (by decide +kernel)
set_option maxRecDepth 20000 in
theorem hL_X13_feud_wsX130 : GoodIn wsL_lawB wsX130 := goodIn_r _ [1415, 1416, 1417, 1418, 1419, 1420, 1421, 1422, 1423, 1424, 1425, 1426, 1427, 1428, 1429, 1430, 1431, 1432, 1433, 1434, 1435, 1436, 1437, 1438, 1439, 1440, 1441] (by decide +kernel) (by decide +kernel)
set_option maxRecDepth 20000 in
theorem ggL_law_X13_feud : GoodIn wsL_lawB wsX13_feud := goodIn_cons hL_X13_feud_c (goodIn_app (goodIn_app hL_X13_feud_wsX13_feud_r1 hL_X13_feud_wsX13_feud_r2) hL_X13_feud_wsX130)
set_option maxRecDepth 20000 in
theorem gL_law_X13_feud : GoodIn wsL_lawB (wsV RL 78 RX13 yX13_feud wsX13_feud) := goodIn_app (goodIn_of _ (by decide +kernel)) ggL_law_X13_feud
set_option maxRecDepth 20000 in
theorem ggL_law_X12_greeted : GoodIn wsL_lawB wsX12_greeted := goodIn_r _ [835, 15, 774, 826, 359, 2, 360, 361, 269, 270, 836, 420, 421, 57, 422, 73, 1404, 1405, 1406, 1407, 1408, 1409, 1410, 1411, 1412, 1413, 1414, 1442, 1443, 1444, 1445, 1446, 1447, 1448, 1449, 1450, 1451, 1480, 1481] (by decide +kernel) (by decide +kernel)
set_option maxRecDepth 20000 in
theorem gL_law_X12_greeted : GoodIn wsL_lawB (wsV RL 79 RX12 yX12_greeted wsX12_greeted) := goodIn_app (goodIn_of _ (by decide +kernel)) ggL_law_X12_greeted
set_option maxRecDepth 20000 in
theorem ggL_law_X13_greeted : GoodIn wsL_lawB wsX13_greeted := goodIn_r _ [840, 378, 379, 5, 380, 300, 301, 302, 235, 236, 237, 451, 452, 453, 454, 142, 1415, 1416, 1417, 1418, 1419, 1420, 1421, 1422, 1423, 1424, 1425, 1426, 1427, 1428, 1429, 1430, 1431, 1432, 1433, 1434, 1435, 1436, 1437, 1438, 1439, 1440, 1441] (by decide +kernel) (by decide +kernel)
set_option maxRecDepth 20000 in
theorem gL_law_X13_greeted : GoodIn wsL_lawB (wsV RL 82 RX13 yX13_greeted wsX13_greeted) := goodIn_app (goodIn_of _ (by decide +kernel)) ggL_law_X13_greeted
set_option maxRecDepth 20000 in
theorem hL_X12_catOf_c : GoodIn wsL_lawB [Cond.code yX12_catOf cX12_catOf 3 (some .int)] := goodIn_r _ [844] (by decide +kernel) (by decide +kernel)
set_option maxRecDepth 20000 in
theorem hL_X12_catOf_wsX12_catOf_r1 : GoodIn wsL_lawB wsX12_catOf_r1 := goodIn_r _ [15, 773, 845, 846, 847, 848, 34, 849, 850, 851, 852, 33, 853, 111, 854, 82, 83, 84, 855, 856, 857, 858, 859, 860] (by decide +kernel) (by decide +kernel)
set_option maxRecDepth 20000 in
theorem hL_X12_catOf_wsX12_catOf_r2 : GoodIn wsL_lawB wsX12_catOf_r2 := goodIn_r _ [861, 14, 862, 863, 864, 865, 410, 411, 412, 413, 409, 372, 286, 373, 414, 285, 287, 49, 50, 54, 362, 363, 364, 53] (by decide +kernel) (by decide +kernel)
set_option maxRecDepth 20000 in
theorem hL_X12_catOf_wsX12_catOf_r3 : GoodIn wsL_lawB wsX12_catOf_r3 := goodIn_r _ [365, 193, 67, 68] (by decide +kernel) (by decide +kernel)
set_option maxRecDepth 20000 in
theorem hL_X12_catOf_wsX120 : GoodIn wsL_lawB wsX120 := goodIn_r _ [1404, 1405, 1406, 1407, 1408, 1409, 1410, 1411, 1412, 1413, 1414] (by decide +kernel) (by decide +kernel)
set_option maxRecDepth 20000 in
theorem hL_X12_catOf_wsX60 : GoodIn wsL_lawB wsX60 := goodIn_r _ [1442, 1443, 1444, 1445, 1446, 1447, 1448, 1449, 1450, 1451] (by decide +kernel) (by decide +kernel)
set_option maxRecDepth 20000 in
theorem hL_X12_catOf_wsX10 : GoodIn wsL_lawB wsX10 := goodIn_r _ [1482, 1483, 1484, 1485] (by decide +kernel) (by decide +kernel)
set_option maxRecDepth 20000 in
theorem hL_X12_catOf_wsX90 : GoodIn wsL_lawB wsX90 := goodIn_r _ [1467, 1468] (by decide +kernel) (by decide +kernel)
set_option maxRecDepth 20000 in
theorem hL_X12_catOf_wsX70 : GoodIn wsL_lawB wsX70 := goodIn_r _ [1475, 1476, 1477, 1478, 1479] (by decide +kernel) (by decide +kernel)
set_option maxRecDepth 20000 in
theorem ggL_law_X12_catOf : GoodIn wsL_lawB wsX12_catOf := goodIn_cons hL_X12_catOf_c (goodIn_app (goodIn_app (goodIn_app (goodIn_app (goodIn_app (goodIn_app hL_X12_catOf_wsX12_catOf_r1 (goodIn_app hL_X12_catOf_wsX12_catOf_r2 hL_X12_catOf_wsX12_catOf_r3)) hL_X12_catOf_wsX120) hL_X12_catOf_wsX60) hL_X12_catOf_wsX10) hL_X12_catOf_wsX90) hL_X12_catOf_wsX70)
set_option maxRecDepth 20000 in
theorem gL_law_X12_catOf : GoodIn wsL_lawB (wsV RL 83 RX12 yX12_catOf wsX12_catOf) := goodIn_app (goodIn_of _ (by decide +kernel)) ggL_law_X12_catOf
set_option maxRecDepth 20000 in
theorem hL_X13_catOf_c : GoodIn wsL_lawB [Cond.code yX13_catOf cX13_catOf 3 (some .int)] := goodIn_r _ [869] (by decide +kernel) (by decide +kernel)
set_option maxRecDepth 20000 in
theorem hL_X13_catOf_wsX13_catOf_r1 : GoodIn wsL_lawB wsX13_catOf_r1 := goodIn_r _ [142, 235, 236, 5, 237, 508, 509, 510, 511, 870, 871, 872, 873, 156, 874, 875, 876, 877, 157, 878, 879, 880, 881, 882] (by decide +kernel) (by decide +kernel)
set_option maxRecDepth 20000 in
theorem hL_X13_catOf_wsX13_catOf_r2 : GoodIn wsL_lawB wsX13_catOf_r2 := goodIn_r _ [883, 884, 440, 441, 442, 443, 444, 445, 446, 447, 448, 449, 450, 218, 219, 220, 221, 389, 390, 391, 392, 393, 394, 395] (by decide +kernel) (by decide +kernel)
set_option maxRecDepth 20000 in
theorem hL_X13_catOf_wsX13_catOf_r3 : GoodIn wsL_lawB wsX13_catOf_r3 := goodIn_r _ [396] (by decide +kernel) (by decide +kernel)
set_option maxRecDepth 20000 in
theorem hL_X13_catOf_wsX130 : GoodIn wsL_lawB wsX130 := goodIn_r _ [1415, 1416, 1417, 1418, 1419, 1420, 1421, 1422, 1423, 1424, 1425, 1426, 1427, 1428, 1429, 1430, 1431, 1432, 1433, 1434, 1435, 1436, 1437, 1438, 1439, 1440, 1441] (by decide +kernel) (by decide +kernel)
set_option maxRecDepth 20000 in
theorem ggL_law_X13_catOf : GoodIn wsL_lawB wsX13_catOf := goodIn_cons hL_X13_catOf_c (goodIn_app (goodIn_app hL_X13_catOf_wsX13_catOf_r1 (goodIn_app hL_X13_catOf_wsX13_catOf_r2 hL_X13_catOf_wsX13_catOf_r3)) hL_X13_catOf_wsX130)
set_option maxRecDepth 20000 in
theorem gL_law_X13_catOf : GoodIn wsL_lawB (wsV RL 86 RX13 yX13_catOf wsX13_catOf) := goodIn_app (goodIn_of _ (by decide +kernel)) ggL_law_X13_catOf
set_option maxRecDepth 20000 in
theorem ggL_law_X12_lineOf : GoodIn wsL_lawB wsX12_lineOf := goodIn_r _ [888, 15, 775, 889, 890, 891, 892, 1404, 1405, 1406, 1407, 1408, 1409, 1410, 1411, 1412, 1413, 1414, 1442, 1443, 1444, 1445, 1446, 1447, 1448, 1449, 1450, 1451, 1475, 1476, 1477, 1478, 1479] (by decide +kernel) (by decide +kernel)
set_option maxRecDepth 20000 in
theorem gL_law_X12_lineOf : GoodIn wsL_lawB (wsV RL 87 RX12 yX12_lineOf wsX12_lineOf) := goodIn_app (goodIn_of _ (by decide +kernel)) ggL_law_X12_lineOf
set_option maxRecDepth 20000 in
theorem ggL_law_X13_lineOf : GoodIn wsL_lawB wsX13_lineOf := goodIn_r _ [896, 142, 235, 236, 5, 237, 393, 394, 395, 396, 1415, 1416, 1417, 1418, 1419, 1420, 1421, 1422, 1423, 1424, 1425, 1426, 1427, 1428, 1429, 1430, 1431, 1432, 1433, 1434, 1435, 1436, 1437, 1438, 1439, 1440, 1441] (by decide +kernel) (by decide +kernel)
set_option maxRecDepth 20000 in
theorem gL_law_X13_lineOf : GoodIn wsL_lawB (wsV RL 90 RX13 yX13_lineOf wsX13_lineOf) := goodIn_app (goodIn_of _ (by decide +kernel)) ggL_law_X13_lineOf
set_option maxRecDepth 20000 in
theorem ggL_law_X12_feuds : GoodIn wsL_lawB wsX12_feuds := goodIn_r _ [900, 15, 901, 902, 779, 903, 781, 411, 412, 14, 413, 409, 372, 286, 373, 414, 285, 287, 49, 50, 54, 362, 363, 364, 53, 365, 193, 67, 68, 1404, 1405, 1406, 1407, 1408, 1409, 1410, 1411, 1412, 1413, 1414, 1442, 1443, 1444, 1445, 1446, 1447, 1448, 1449, 1450, 1451, 1475, 1476, 1477, 1478, 1479] (by decide +kernel) (by decide +kernel)
set_option maxRecDepth 20000 in
theorem gL_law_X12_feuds : GoodIn wsL_lawB (wsV RL 91 RX12 yX12_feuds wsX12_feuds) := goodIn_app (goodIn_of _ (by decide +kernel)) ggL_law_X12_feuds
set_option maxRecDepth 20000 in
theorem hL_X13_feuds_c : GoodIn wsL_lawB [Cond.code yX13_feuds cX13_feuds 1 (some .int)] := goodIn_r _ [907] (by decide +kernel) (by decide +kernel)
set_option maxRecDepth 20000 in
theorem hL_X13_feuds_wsX13_feuds_r1 : GoodIn wsL_lawB wsX13_feuds_r1 := goodIn_r _ [908, 909, 910, 5, 911, 802, 803, 804, 805, 440, 441, 442, 443, 444, 445, 446, 447, 142, 448, 449, 450, 218, 219, 220] (by decide +kernel) (by decide +kernel)
set_option maxRecDepth 20000 in
theorem hL_X13_feuds_wsX13_feuds_r2 : GoodIn wsL_lawB wsX13_feuds_r2 := goodIn_r _ [221, 389, 390, 391, 392, 393, 394, 395, 396] (by decide +kernel) (by decide +kernel)
set_option maxRecDepth 20000 in
theorem hL_X13_feuds_wsX130 : GoodIn wsL_lawB wsX130 := goodIn_r _ [1415, 1416, 1417, 1418, 1419, 1420, 1421, 1422, 1423, 1424, 1425, 1426, 1427, 1428, 1429, 1430, 1431, 1432, 1433, 1434, 1435, 1436, 1437, 1438, 1439, 1440, 1441] (by decide +kernel) (by decide +kernel)
set_option maxRecDepth 20000 in
theorem ggL_law_X13_feuds : GoodIn wsL_lawB wsX13_feuds := goodIn_cons hL_X13_feuds_c (goodIn_app (goodIn_app hL_X13_feuds_wsX13_feuds_r1 hL_X13_feuds_wsX13_feuds_r2) hL_X13_feuds_wsX130)
set_option maxRecDepth 20000 in
theorem gL_law_X13_feuds : GoodIn wsL_lawB (wsV RL 94 RX13 yX13_feuds wsX13_feuds) := goodIn_app (goodIn_of _ (by decide +kernel)) ggL_law_X13_feuds
set_option maxRecDepth 20000 in
theorem ggL_law_X12_feudsAgain : GoodIn wsL_lawB wsX12_feudsAgain := goodIn_r _ [915, 15, 916, 917, 779, 918, 919, 920, 921, 922, 923, 924, 925, 926, 927, 928, 929, 930, 1404, 1405, 1406, 1407, 1408, 1409, 1410, 1411, 1412, 1413, 1414, 1442, 1443, 1444, 1445, 1446, 1447, 1448, 1449, 1450, 1451, 1475, 1476, 1477, 1478, 1479] (by decide +kernel) (by decide +kernel)
set_option maxRecDepth 20000 in
theorem gL_law_X12_feudsAgain : GoodIn wsL_lawB (wsV RL 95 RX12 yX12_feudsAgain wsX12_feudsAgain) := goodIn_app (goodIn_of _ (by decide +kernel)) ggL_law_X12_feudsAgain
set_option maxRecDepth 20000 in
theorem hL_X13_feudsAgain_c : GoodIn wsL_lawB [Cond.code yX13_feudsAgain cX13_feudsAgain 1 (some .int)] := goodIn_r _ [934] (by decide +kernel) (by decide +kernel)
set_option maxRecDepth 20000 in
theorem hL_X13_feudsAgain_wsX13_feudsAgain_r1 : GoodIn wsL_lawB wsX13_feudsAgain_r1 := goodIn_r _ [908, 909, 910, 5, 911, 802, 803, 804, 805, 440, 441, 442, 443, 444, 445, 446, 447, 142, 448, 449, 450, 218, 219, 220] (by decide +kernel) (by decide +kernel)
set_option maxRecDepth 20000 in
theorem hL_X13_feudsAgain_wsX13_feudsAgain_r2 : GoodIn wsL_lawB wsX13_feudsAgain_r2 := goodIn_r _ [221, 389, 390, 391, 392, 393, 394, 395, 396] (by decide +kernel) (by decide +kernel)
set_option maxRecDepth 20000 in
theorem hL_X13_feudsAgain_wsX130 : GoodIn wsL_lawB wsX130 := goodIn_r _ [1415, 1416, 1417, 1418, 1419, 1420, 1421, 1422, 1423, 1424, 1425, 1426, 1427, 1428, 1429, 1430, 1431, 1432, 1433, 1434, 1435, 1436, 1437, 1438, 1439, 1440, 1441] (by decide +kernel) (by decide +kernel)
set_option maxRecDepth 20000 in
theorem ggL_law_X13_feudsAgain : GoodIn wsL_lawB wsX13_feudsAgain := goodIn_cons hL_X13_feudsAgain_c (goodIn_app (goodIn_app hL_X13_feudsAgain_wsX13_feudsAgain_r1 hL_X13_feudsAgain_wsX13_feudsAgain_r2) hL_X13_feudsAgain_wsX130)
set_option maxRecDepth 20000 in
theorem gL_law_X13_feudsAgain : GoodIn wsL_lawB (wsV RL 98 RX13 yX13_feudsAgain wsX13_feudsAgain) := goodIn_app (goodIn_of _ (by decide +kernel)) ggL_law_X13_feudsAgain
