set_option maxRecDepth 20000 in
theorem wsL_law_in : ∀ w ∈ wsL_law, w ∈ lw_tbl := fun w h => (goodIn_p wsL_law [113, 116, 121, 127, 160, 173, 195, 243, 263, 302, 325, 340, 353, 356, 362, 365, 1145, 1150, 418, 422, 426, 430, 434, 439, 443, 1236, 1240, 1244, 447, 451, 1609, 1261, 455, 459, 466, 471, 476, 481, 484, 488, 492, 496, 500, 1248, 1252, 1255, 1258, 1264, 1268, 1272, 1276, 1280, 1284, 504, 508, 1288, 1291, 1295, 1299, 512, 516, 519, 524, 528, 532, 1303, 1306, 1310, 1314, 1318, 1322, 1326, 536, 540, 544, 550, 554, 558, 1330, 1334, 1338, 1342, 1346, 1349, 1353, 1357, 563, 567, 1361, 1365, 1369, 571, 575, 579, 583, 1373, 1377, 1381, 1385, 1389, 587, 591, 595, 1393, 1397, 1401, 1405, 599, 603, 606, 610, 614, 1409, 1413, 1417, 1421, 1425, 1429, 618, 622, 626, 630, 636, 640, 644, 649, 653, 656, 659, 664, 667, 670, 673, 677, 688, 692, 696, 700, 704, 708, 717, 721, 1613, 1617, 1621, 1625, 1628, 1631, 1635, 1639, 1643, 1647, 1651, 726, 1655, 730, 1659, 734, 738, 743, 747, 751, 755, 1433, 1437, 1441, 1445, 1449, 1453, 759, 1457, 765, 1461, 770, 774, 779, 783, 786, 1465, 1469, 1473, 1477, 1480, 790, 1484, 794, 797, 1488, 1492, 801, 804, 807, 810, 1496, 814, 817, 820, 1500, 1504, 1508, 827, 830, 833, 1512, 837, 841, 1516, 1520, 846, 850, 1524, 855, 1528, 859, 863, 867, 1532, 871, 875, 880, 1536, 1540, 884, 888, 892, 896, 1544, 901, 1548, 905, 909, 913, 917, 921, 1552, 1556, 925, 1560, 1564, 929, 933, 936, 940, 944, 947, 952, 956, 970, 973, 976, 979, 982, 987, 990, 993, 997, 1000, 1003, 1006, 1009, 1012, 1015, 1018, 1022, 1026, 1029, 1032, 1035, 1042, 1045, 1048, 1051, 1054, 1060, 1063, 1568, 1572, 1576, 1067, 1580, 1071, 1075, 1078, 1584, 1085, 1095, 1099, 1103, 1588, 1107, 1592, 1112, 1116, 1597, 1601, 1120, 1124, 1605, 1128, 1132, 1663, 1136, 1667, 1140, 1671] (by decide +kernel) (by decide +kernel) w h).1
theorem inX0 : ∀ w ∈ wsX00, w ∈ lw_tbl := by decide +kernel
theorem inlX1 : ∀ w ∈ wsX10, w ∈ wsL_law := fun _ h => List.mem_append_left _ (List.mem_append_right _ h)
theorem inX1 : ∀ w ∈ wsX10, w ∈ lw_tbl := fun w h => wsL_law_in w (inlX1 w h)
theorem inX2 : ∀ w ∈ wsX20, w ∈ lw_tbl := by decide +kernel
theorem inX3 : ∀ w ∈ wsX30, w ∈ lw_tbl := by decide +kernel
theorem inlX4 : ∀ w ∈ wsX40, w ∈ wsL_law := fun _ h => List.mem_append_left _ (List.mem_append_left _ (List.mem_append_right _ h))
theorem inX4 : ∀ w ∈ wsX40, w ∈ lw_tbl := fun w h => wsL_law_in w (inlX4 w h)
theorem inlX5 : ∀ w ∈ wsX50, w ∈ wsL_law := fun _ h => List.mem_append_left _ (List.mem_append_left _ (List.mem_append_left _ (List.mem_append_left _ (List.mem_append_left _ (List.mem_append_left _ (List.mem_append_left _ (List.mem_append_left _ (List.mem_append_left _ (List.mem_append_right _ h)))))))))
theorem inX5 : ∀ w ∈ wsX50, w ∈ lw_tbl := fun w h => wsL_law_in w (inlX5 w h)
theorem inlX6 : ∀ w ∈ wsX60, w ∈ wsL_law := fun _ h => List.mem_append_left _ (List.mem_append_left _ (List.mem_append_left _ (List.mem_append_left _ (List.mem_append_left _ (List.mem_append_left _ (List.mem_append_left _ (List.mem_append_left _ (List.mem_append_left _ (List.mem_append_left _ (List.mem_append_right _ h))))))))))
theorem inX6 : ∀ w ∈ wsX60, w ∈ lw_tbl := fun w h => wsL_law_in w (inlX6 w h)
theorem inlX7 : ∀ w ∈ wsX70, w ∈ wsL_law := fun _ h => List.mem_append_left _ (List.mem_append_left _ (List.mem_append_left _ (List.mem_append_right _ h)))
theorem inX7 : ∀ w ∈ wsX70, w ∈ lw_tbl := fun w h => wsL_law_in w (inlX7 w h)
theorem inlX8 : ∀ w ∈ wsX80, w ∈ wsL_law := fun _ h => List.mem_append_left _ (List.mem_append_left _ (List.mem_append_left _ (List.mem_append_left _ (List.mem_append_left _ (List.mem_append_right _ h)))))
theorem inX8 : ∀ w ∈ wsX80, w ∈ lw_tbl := fun w h => wsL_law_in w (inlX8 w h)
theorem inlX9 : ∀ w ∈ wsX90, w ∈ wsL_law := fun _ h => List.mem_append_left _ (List.mem_append_left _ (List.mem_append_left _ (List.mem_append_left _ (List.mem_append_left _ (List.mem_append_left _ (List.mem_append_right _ h))))))
theorem inX9 : ∀ w ∈ wsX90, w ∈ lw_tbl := fun w h => wsL_law_in w (inlX9 w h)
theorem inlX10 : ∀ w ∈ wsX100, w ∈ wsL_law := fun _ h => List.mem_append_left _ (List.mem_append_left _ (List.mem_append_left _ (List.mem_append_left _ (List.mem_append_left _ (List.mem_append_left _ (List.mem_append_left _ (List.mem_append_left _ (List.mem_append_right _ h))))))))
theorem inX10 : ∀ w ∈ wsX100, w ∈ lw_tbl := fun w h => wsL_law_in w (inlX10 w h)
theorem inlX11 : ∀ w ∈ wsX110, w ∈ wsL_law := fun _ h => List.mem_append_left _ (List.mem_append_left _ (List.mem_append_left _ (List.mem_append_left _ (List.mem_append_left _ (List.mem_append_left _ (List.mem_append_left _ (List.mem_append_right _ h)))))))
theorem inX11 : ∀ w ∈ wsX110, w ∈ lw_tbl := fun w h => wsL_law_in w (inlX11 w h)
theorem inlX12 : ∀ w ∈ wsX120, w ∈ wsL_law := fun _ h => List.mem_append_left _ (List.mem_append_left _ (List.mem_append_left _ (List.mem_append_left _ (List.mem_append_left _ (List.mem_append_left _ (List.mem_append_left _ (List.mem_append_left _ (List.mem_append_left _ (List.mem_append_left _ (List.mem_append_left _ (List.mem_append_left _ (List.mem_append_right _ h))))))))))))
theorem inX12 : ∀ w ∈ wsX120, w ∈ lw_tbl := fun w h => wsL_law_in w (inlX12 w h)
theorem inlX13 : ∀ w ∈ wsX130, w ∈ wsL_law := fun _ h => List.mem_append_left _ (List.mem_append_left _ (List.mem_append_left _ (List.mem_append_left _ (List.mem_append_left _ (List.mem_append_left _ (List.mem_append_left _ (List.mem_append_left _ (List.mem_append_left _ (List.mem_append_left _ (List.mem_append_left _ (List.mem_append_right _ h)))))))))))
theorem inX13 : ∀ w ∈ wsX130, w ∈ lw_tbl := fun w h => wsL_law_in w (inlX13 w h)
theorem inJx145de : ∀ w ∈ wsJx145de0, w ∈ lw_tbl := by decide +kernel
theorem inJ5 : ∀ w ∈ wsJ50, w ∈ lw_tbl := by decide +kernel
theorem inJx2cfe8 : ∀ w ∈ wsJx2cfe80, w ∈ lw_tbl := by decide +kernel
theorem inJx9f9b0 : ∀ w ∈ wsJx9f9b00, w ∈ lw_tbl := by decide +kernel
theorem inJx8e188 : ∀ w ∈ wsJx8e1880, w ∈ lw_tbl := by decide +kernel
theorem inJxb160c : ∀ w ∈ wsJxb160c0, w ∈ lw_tbl := by decide +kernel
theorem inJx29ce0 : ∀ w ∈ wsJx29ce00, w ∈ lw_tbl := by decide +kernel
theorem inJ6 : ∀ w ∈ wsJ60, w ∈ lw_tbl := by decide +kernel
theorem inJ9 : ∀ w ∈ wsJ90, w ∈ lw_tbl := by decide +kernel
theorem inJxd2413 : ∀ w ∈ wsJxd24130, w ∈ lw_tbl := by decide +kernel
theorem inJ0 : ∀ w ∈ wsJ00, w ∈ lw_tbl := by decide +kernel
theorem inlJ4 : ∀ w ∈ wsJ40, w ∈ wsL_law := fun _ h => List.mem_append_left _ (List.mem_append_left _ (List.mem_append_left _ (List.mem_append_left _ (List.mem_append_right _ h))))
theorem inJ4 : ∀ w ∈ wsJ40, w ∈ lw_tbl := fun w h => wsL_law_in w (inlJ4 w h)
theorem inJ1 : ∀ w ∈ wsJ10, w ∈ lw_tbl := by decide +kernel
theorem inJ2 : ∀ w ∈ wsJ20, w ∈ lw_tbl := by decide +kernel
theorem inJ10 : ∀ w ∈ wsJ100, w ∈ lw_tbl := by decide +kernel
theorem inJxfd54e : ∀ w ∈ wsJxfd54e0, w ∈ lw_tbl := by decide +kernel
theorem inJx3cf43 : ∀ w ∈ wsJx3cf430, w ∈ lw_tbl := by decide +kernel
theorem inJ7 : ∀ w ∈ wsJ70, w ∈ lw_tbl := by decide +kernel
theorem inJ8 : ∀ w ∈ wsJ80, w ∈ lw_tbl := by decide +kernel
theorem inJ3 : ∀ w ∈ wsJ30, w ∈ lw_tbl := by decide +kernel
set_option maxRecDepth 20000 in
theorem ggL_law_X12_init : GoodIn wsL_law wsX12_init := goodIn_r _ [8, 9, 10, 11, 12, 13, 14, 15, 16, 17, 18, 19, 20, 21, 22, 23, 24, 25, 26, 27, 28, 29, 30, 31, 32, 33, 34, 35, 36, 37, 38, 39, 40, 41, 42, 43, 44, 45, 46, 47, 48, 49, 50, 51, 52, 53, 54, 55, 56, 57, 58, 59, 60, 61, 62, 63, 64, 65, 66, 67, 68, 69, 70, 71, 72, 73, 74, 75, 76, 77, 78, 79, 80, 81, 82, 83, 84, 85, 86, 87, 88, 89, 90, 91, 92, 93, 94, 95, 96, 97, 98, 99, 100, 101, 102, 103, 104, 105, 106, 107, 108, 109, 110, 111, 112, 113, 114, 115, 116, 117, 118, 119, 120, 121, 122, 123, 124, 125, 126, 127, 128, 129, 130, 131, 132, 133, 134, 135, 136, 137, 1442, 1443, 1444, 1445, 1446, 1447, 1448, 1449, 1450, 1451, 1404, 1405, 1406, 1407, 1408, 1409, 1410, 1411, 1412, 1413, 1414, 1452, 1453, 1454, 1455, 1456, 1457, 1458, 1459, 1460, 1461, 1462, 1463, 1464, 1465, 1466, 1467, 1468, 1469, 1470, 1471, 1472, 1473, 1474, 1475, 1476, 1477, 1478, 1479, 1480, 1481, 1482, 1483, 1484, 1485] (by decide +kernel) (by decide +kernel)
set_option maxRecDepth 20000 in
theorem gL_law_X12_init : GoodIn wsL_law (wsX12_init) := ggL_law_X12_init
set_option maxRecDepth 20000 in
theorem ggL_law_X13_init : GoodIn wsL_law wsX13_init := goodIn_r _ [140, 141, 10, 11, 48, 142, 143, 144, 145, 146, 147, 148, 149, 150, 151, 152, 153, 154, 155, 156, 157, 158, 159, 160, 161, 162, 163, 164, 165, 166, 167, 168, 169, 170, 171, 5, 172, 1415, 1416, 1417, 1418, 1419, 1420, 1421, 1422, 1423, 1424, 1425, 1426, 1427, 1428, 1429, 1430, 1431, 1432, 1433, 1434, 1435, 1436, 1437, 1438, 1439, 1440, 1441] (by decide +kernel) (by decide +kernel)
set_option maxRecDepth 20000 in
theorem gL_law_X13_init : GoodIn wsL_law (wsX13_init) := ggL_law_X13_init
set_option maxRecDepth 20000 in
theorem ggL_law_X12_clear : GoodIn wsL_law wsX12_clear := goodIn_r _ [176, 15, 22, 177, 178, 179, 14, 180, 49, 181, 182, 183, 184, 50, 54, 58, 62, 185, 186, 187, 188, 81, 82, 83, 84, 189, 190, 191, 53, 192, 193, 194, 195, 196, 197, 57, 198, 73, 74, 199, 200, 201, 202, 61, 203, 204, 205, 206, 207, 21, 208, 209, 1404, 1405, 1406, 1407, 1408, 1409, 1410, 1411, 1412, 1413, 1414, 1442, 1443, 1444, 1445, 1446, 1447, 1448, 1449, 1450, 1451, 1475, 1476, 1477, 1478, 1479, 1480, 1481, 1482, 1483, 1484, 1485, 1452, 1453, 1454] (by decide +kernel) (by decide +kernel)
set_option maxRecDepth 20000 in
theorem gL_law_X12_clear : GoodIn wsL_law (wsV RL 13 RX12 yX12_clear wsX12_clear) := goodIn_app (goodIn_of _ (by decide +kernel)) ggL_law_X12_clear
set_option maxRecDepth 20000 in
theorem ggL_law_X13_clear : GoodIn wsL_law wsX13_clear := goodIn_r _ [213, 147, 214, 215, 216, 5, 217, 218, 219, 220, 221, 142, 169, 170, 171, 172, 1415, 1416, 1417, 1418, 1419, 1420, 1421, 1422, 1423, 1424, 1425, 1426, 1427, 1428, 1429, 1430, 1431, 1432, 1433, 1434, 1435, 1436, 1437, 1438, 1439, 1440, 1441] (by decide +kernel) (by decide +kernel)
set_option maxRecDepth 20000 in
theorem gL_law_X13_clear : GoodIn wsL_law (wsV RL 17 RX13 yX13_clear wsX13_clear) := goodIn_app (goodIn_of _ (by decide +kernel)) ggL_law_X13_clear
set_option maxRecDepth 20000 in
theorem ggL_law_X12_append : GoodIn wsL_law wsX12_append := goodIn_r _ [225, 26, 226, 227, 228, 25, 229, 230, 96, 1404, 1405, 1406, 1407, 1408, 1409, 1410, 1411, 1412, 1413, 1414, 1455, 1456, 1457, 1458, 1459, 1460, 1461, 1462] (by decide +kernel) (by decide +kernel)
set_option maxRecDepth 20000 in
theorem gL_law_X12_append : GoodIn wsL_law (wsV RL 18 RX12 yX12_append wsX12_append) := goodIn_app (goodIn_of _ (by decide +kernel)) ggL_law_X12_append
set_option maxRecDepth 20000 in
theorem ggL_law_X13_append : GoodIn wsL_law wsX13_append := goodIn_r _ [234, 163, 160, 235, 236, 5, 237, 1415, 1416, 1417, 1418, 1419, 1420, 1421, 1422, 1423, 1424, 1425, 1426, 1427, 1428, 1429, 1430, 1431, 1432, 1433, 1434, 1435, 1436, 1437, 1438, 1439, 1440, 1441] (by decide +kernel) (by decide +kernel)
set_option maxRecDepth 20000 in
theorem gL_law_X13_append : GoodIn wsL_law (wsV RL 22 RX13 yX13_append wsX13_append) := goodIn_app (goodIn_of _ (by decide +kernel)) ggL_law_X13_append
set_option maxRecDepth 20000 in
theorem ggL_law_X12_plant : GoodIn wsL_law wsX12_plant := goodIn_r _ [241, 16, 15, 30, 242, 243, 244, 14, 245, 49, 246, 247, 248, 249, 50, 54, 58, 62, 185, 186, 187, 188, 250, 251, 252, 53, 253, 67, 254, 68, 69, 193, 194, 255, 256, 257, 57, 258, 73, 259, 74, 260, 261, 262, 61, 263, 78, 264, 79, 80, 204, 265, 266, 267, 268, 269, 2, 270, 271, 272, 273, 29, 274, 104, 105, 106, 107, 275, 276, 277, 278, 22, 279, 280, 281, 21, 282, 90, 283, 209, 284, 285, 286, 287, 288, 1404, 1405, 1406, 1407, 1408, 1409, 1410, 1411, 1412, 1413, 1414, 1442, 1443, 1444, 1445, 1446, 1447, 1448, 1449, 1450, 1451, 1475, 1476, 1477, 1478, 1479, 1480, 1481, 1482, 1483, 1484, 1485, 1463, 1464, 1465, 1466, 1452, 1453, 1454] (by decide +kernel) (by decide +kernel)
set_option maxRecDepth 20000 in
theorem gL_law_X12_plant : GoodIn wsL_law (wsV RL 23 RX12 yX12_plant wsX12_plant) := goodIn_app (goodIn_of _ (by decide +kernel)) ggL_law_X12_plant
set_option maxRecDepth 20000 in
theorem ggL_law_X13_plant : GoodIn wsL_law wsX13_plant := goodIn_r _ [292, 293, 294, 295, 5, 296, 142, 143, 297, 298, 299, 300, 301, 302, 235, 236, 237, 303, 304, 305, 306, 307, 308, 309, 218, 219, 220, 221, 310, 311, 312, 313, 148, 149, 314, 315, 316, 317, 150, 151, 152, 318, 319, 320, 321, 322, 323, 324, 325, 147, 146, 1415, 1416, 1417, 1418, 1419, 1420, 1421, 1422, 1423, 1424, 1425, 1426, 1427, 1428, 1429, 1430, 1431, 1432, 1433, 1434, 1435, 1436, 1437, 1438, 1439, 1440, 1441] (by decide +kernel) (by decide +kernel)
set_option maxRecDepth 20000 in
theorem gL_law_X13_plant : GoodIn wsL_law (wsV RL 27 RX13 yX13_plant wsX13_plant) := goodIn_app (goodIn_of _ (by decide +kernel)) ggL_law_X13_plant
set_option maxRecDepth 20000 in
theorem ggL_law_X12_bear : GoodIn wsL_law wsX12_bear := goodIn_r _ [329, 16, 15, 30, 242, 243, 244, 14, 245, 49, 246, 247, 248, 249, 50, 54, 58, 62, 185, 186, 187, 188, 250, 251, 252, 53, 253, 67, 254, 68, 69, 193, 194, 255, 256, 257, 57, 258, 73, 259, 74, 260, 261, 262, 61, 263, 78, 264, 79, 80, 204, 330, 331, 332, 333, 269, 2, 270, 271, 272, 273, 29, 274, 104, 105, 106, 107, 275, 276, 277, 278, 22, 279, 280, 281, 21, 282, 90, 283, 209, 284, 285, 286, 287, 288, 1404, 1405, 1406, 1407, 1408, 1409, 1410, 1411, 1412, 1413, 1414, 1442, 1443, 1444, 1445, 1446, 1447, 1448, 1449, 1450, 1451, 1475, 1476, 1477, 1478, 1479, 1480, 1481, 1482, 1483, 1484, 1485, 1463, 1464, 1465, 1466, 1452, 1453, 1454] (by decide +kernel) (by decide +kernel)
set_option maxRecDepth 20000 in
theorem gL_law_X12_bear : GoodIn wsL_law (wsV RL 28 RX12 yX12_bear wsX12_bear) := goodIn_app (goodIn_of _ (by decide +kernel)) ggL_law_X12_bear
set_option maxRecDepth 20000 in
theorem ggL_law_X13_bear : GoodIn wsL_law wsX13_bear := goodIn_r _ [337, 293, 294, 295, 5, 296, 142, 143, 297, 298, 299, 300, 301, 302, 235, 236, 237, 338, 339, 340, 341, 342, 343, 344, 310, 311, 312, 313, 148, 149, 314, 315, 316, 317, 150, 151, 152, 345, 346, 347, 348, 322, 323, 324, 325, 147, 146, 1415, 1416, 1417, 1418, 1419, 1420, 1421, 1422, 1423, 1424, 1425, 1426, 1427, 1428, 1429, 1430, 1431, 1432, 1433, 1434, 1435, 1436, 1437, 1438, 1439, 1440, 1441] (by decide +kernel) (by decide +kernel)
set_option maxRecDepth 20000 in
theorem gL_law_X13_bear : GoodIn wsL_law (wsV RL 31 RX13 yX13_bear wsX13_bear) := goodIn_app (goodIn_of _ (by decide +kernel)) ggL_law_X13_bear
set_option maxRecDepth 20000 in
theorem ggL_law_X12_hang : GoodIn wsL_law wsX12_hang := goodIn_r _ [352, 16, 15, 30, 242, 243, 244, 14, 245, 49, 246, 247, 248, 249, 50, 54, 58, 62, 185, 186, 187, 188, 250, 251, 252, 53, 253, 67, 254, 68, 69, 193, 194, 255, 256, 257, 57, 258, 73, 259, 74, 260, 261, 262, 61, 263, 78, 264, 79, 80, 204, 353, 354, 355, 356, 357, 358, 359, 2, 360, 361, 269, 270, 271, 272, 273, 29, 274, 104, 105, 106, 107, 362, 363, 364, 365, 366, 367, 368, 369, 370, 285, 286, 287, 371, 372, 373, 275, 276, 277, 278, 22, 279, 280, 281, 21, 282, 90, 283, 209, 284, 288, 1404, 1405, 1406, 1407, 1408, 1409, 1410, 1411, 1412, 1413, 1414, 1442, 1443, 1444, 1445, 1446, 1447, 1448, 1449, 1450, 1451, 1475, 1476, 1477, 1478, 1479, 1480, 1481, 1482, 1483, 1484, 1485, 1463, 1464, 1465, 1466, 1452, 1453, 1454] (by decide +kernel) (by decide +kernel)
set_option maxRecDepth 20000 in
theorem gL_law_X12_hang : GoodIn wsL_law (wsV RL 32 RX12 yX12_hang wsX12_hang) := goodIn_app (goodIn_of _ (by decide +kernel)) ggL_law_X12_hang
set_option maxRecDepth 20000 in
theorem ggL_law_X13_hang : GoodIn wsL_law wsX13_hang := goodIn_r _ [377, 293, 294, 295, 5, 296, 142, 143, 297, 298, 299, 378, 379, 380, 300, 301, 302, 235, 236, 237, 303, 304, 305, 381, 382, 383, 384, 385, 386, 387, 388, 310, 311, 312, 313, 148, 149, 389, 390, 391, 392, 393, 394, 395, 396, 314, 315, 316, 317, 150, 151, 152, 397, 398, 399, 400, 322, 323, 324, 325, 147, 146, 1415, 1416, 1417, 1418, 1419, 1420, 1421, 1422, 1423, 1424, 1425, 1426, 1427, 1428, 1429, 1430, 1431, 1432, 1433, 1434, 1435, 1436, 1437, 1438, 1439, 1440, 1441] (by decide +kernel) (by decide +kernel)
set_option maxRecDepth 20000 in
theorem gL_law_X13_hang : GoodIn wsL_law (wsV RL 36 RX13 yX13_hang wsX13_hang) := goodIn_app (goodIn_of _ (by decide +kernel)) ggL_law_X13_hang
set_option maxRecDepth 20000 in
theorem ggL_law_X12_greet : GoodIn wsL_law wsX12_greet := goodIn_r _ [404, 16, 15, 30, 242, 243, 244, 14, 245, 49, 246, 247, 248, 249, 50, 54, 58, 62, 185, 186, 187, 188, 250, 251, 252, 53, 253, 67, 254, 68, 69, 193, 194, 255, 256, 257, 57, 258, 73, 259, 74, 260, 261, 262, 61, 263, 78, 264, 79, 80, 204, 405, 406, 407, 408, 409, 372, 286, 373, 359, 2, 360, 361, 269, 270, 271, 272, 273, 29, 274, 104, 105, 106, 107, 410, 411, 412, 413, 414, 285, 287, 362, 363, 364, 365, 415, 416, 417, 418, 419, 420, 421, 422, 423, 424, 425, 426, 427, 275, 276, 277, 278, 22, 279, 280, 281, 21, 282, 90, 283, 209, 284, 288, 1404, 1405, 1406, 1407, 1408, 1409, 1410, 1411, 1412, 1413, 1414, 1442, 1443, 1444, 1445, 1446, 1447, 1448, 1449, 1450, 1451, 1475, 1476, 1477, 1478, 1479, 1480, 1481, 1482, 1483, 1484, 1485, 1463, 1464, 1465, 1466, 1452, 1453, 1454] (by decide +kernel) (by decide +kernel)
set_option maxRecDepth 20000 in
theorem gL_law_X12_greet : GoodIn wsL_law (wsV RL 37 RX12 yX12_greet wsX12_greet) := goodIn_app (goodIn_of _ (by decide +kernel)) ggL_law_X12_greet
set_option maxRecDepth 20000 in
theorem ggL_law_X13_greet : GoodIn wsL_law wsX13_greet := goodIn_r _ [431, 293, 294, 295, 5, 296, 142, 143, 297, 298, 299, 378, 379, 380, 300, 301, 302, 235, 236, 237, 432, 433, 434, 435, 436, 437, 438, 439, 385, 386, 387, 388, 310, 311, 312, 313, 148, 149, 440, 441, 442, 443, 444, 445, 446, 447, 448, 449, 450, 218, 219, 220, 221, 389, 390, 391, 392, 393, 394, 395, 396, 451, 452, 453, 454, 314, 315, 316, 317, 150, 151, 152, 455, 456, 457, 458, 322, 323, 324, 325, 147, 146, 1415, 1416, 1417, 1418, 1419, 1420, 1421, 1422, 1423, 1424, 1425, 1426, 1427, 1428, 1429, 1430, 1431, 1432, 1433, 1434, 1435, 1436, 1437, 1438, 1439, 1440, 1441] (by decide +kernel) (by decide +kernel)
set_option maxRecDepth 20000 in
theorem gL_law_X13_greet : GoodIn wsL_law (wsV RL 40 RX13 yX13_greet wsX13_greet) := goodIn_app (goodIn_of _ (by decide +kernel)) ggL_law_X13_greet
set_option maxRecDepth 20000 in
theorem ggL_law_X12_give : GoodIn wsL_law wsX12_give := goodIn_r _ [462, 16, 15, 30, 242, 243, 244, 14, 245, 49, 246, 247, 248, 249, 50, 54, 58, 62, 185, 186, 187, 188, 250, 251, 252, 53, 253, 67, 254, 68, 69, 193, 194, 255, 256, 257, 57, 258, 73, 259, 74, 260, 261, 262, 61, 263, 78, 264, 79, 80, 204, 463, 464, 465, 466, 409, 372, 286, 373, 359, 2, 360, 361, 269, 270, 271, 272, 273, 29, 274, 104, 105, 106, 107, 410, 411, 412, 413, 414, 285, 287, 362, 363, 364, 365, 275, 276, 277, 278, 22, 279, 280, 281, 21, 282, 90, 283, 209, 284, 288, 1404, 1405, 1406, 1407, 1408, 1409, 1410, 1411, 1412, 1413, 1414, 1442, 1443, 1444, 1445, 1446, 1447, 1448, 1449, 1450, 1451, 1475, 1476, 1477, 1478, 1479, 1480, 1481, 1482, 1483, 1484, 1485, 1463, 1464, 1465, 1466, 1452, 1453, 1454] (by decide +kernel) (by decide +kernel)
set_option maxRecDepth 20000 in
theorem gL_law_X12_give : GoodIn wsL_law (wsV RL 41 RX12 yX12_give wsX12_give) := goodIn_app (goodIn_of _ (by decide +kernel)) ggL_law_X12_give
set_option maxRecDepth 20000 in
theorem ggL_law_X13_give : GoodIn wsL_law wsX13_give := goodIn_r _ [470, 293, 294, 295, 5, 296, 142, 143, 297, 298, 299, 378, 379, 380, 300, 301, 302, 235, 236, 237, 303, 304, 305, 471, 472, 473, 474, 436, 437, 438, 439, 385, 386, 387, 388, 310, 311, 312, 313, 148, 149, 440, 441, 442, 443, 444, 445, 446, 447, 448, 449, 450, 218, 219, 220, 221, 389, 390, 391, 392, 393, 394, 395, 396, 314, 315, 316, 317, 150, 151, 152, 475, 476, 477, 478, 322, 323, 324, 325, 147, 146, 1415, 1416, 1417, 1418, 1419, 1420, 1421, 1422, 1423, 1424, 1425, 1426, 1427, 1428, 1429, 1430, 1431, 1432, 1433, 1434, 1435, 1436, 1437, 1438, 1439, 1440, 1441] (by decide +kernel) (by decide +kernel)
set_option maxRecDepth 20000 in
theorem gL_law_X13_give : GoodIn wsL_law (wsV RL 44 RX13 yX13_give wsX13_give) := goodIn_app (goodIn_of _ (by decide +kernel)) ggL_law_X13_give
set_option maxRecDepth 20000 in
theorem ggL_law_X12_cat : GoodIn wsL_law wsX12_cat := goodIn_r _ [482, 16, 15, 30, 242, 243, 244, 14, 245, 49, 246, 247, 248, 249, 50, 54, 58, 62, 185, 186, 187, 188, 250, 251, 252, 53, 253, 67, 254, 68, 69, 193, 194, 255, 256, 257, 57, 258, 73, 259, 74, 260, 261, 262, 61, 263, 78, 264, 79, 80, 204, 483, 484, 485, 486, 487, 269, 2, 270, 488, 489, 490, 491, 271, 272, 273, 29, 274, 104, 105, 106, 107, 492, 493, 494, 495, 275, 276, 277, 278, 22, 279, 280, 281, 21, 282, 90, 283, 209, 284, 285, 286, 287, 288, 1404, 1405, 1406, 1407, 1408, 1409, 1410, 1411, 1412, 1413, 1414, 1442, 1443, 1444, 1445, 1446, 1447, 1448, 1449, 1450, 1451, 1475, 1476, 1477, 1478, 1479, 1480, 1481, 1482, 1483, 1484, 1485, 1463, 1464, 1465, 1466, 1452, 1453, 1454] (by decide +kernel) (by decide +kernel)
set_option maxRecDepth 20000 in
theorem gL_law_X12_cat : GoodIn wsL_law (wsV RL 45 RX12 yX12_cat wsX12_cat) := goodIn_app (goodIn_of _ (by decide +kernel)) ggL_law_X12_cat
set_option maxRecDepth 20000 in
theorem ggL_law_X13_cat : GoodIn wsL_law wsX13_cat := goodIn_r _ [499, 293, 294, 295, 5, 296, 142, 143, 297, 298, 299, 300, 301, 302, 235, 236, 237, 500, 501, 502, 503, 504, 505, 506, 507, 508, 509, 510, 511, 310, 311, 312, 313, 148, 149, 314, 315, 316, 317, 150, 151, 152, 512, 513, 514, 515, 322, 323, 324, 325, 147, 146, 1415, 1416, 1417, 1418, 1419, 1420, 1421, 1422, 1423, 1424, 1425, 1426, 1427, 1428, 1429, 1430, 1431, 1432, 1433, 1434, 1435, 1436, 1437, 1438, 1439, 1440, 1441] (by decide +kernel) (by decide +kernel)
set_option maxRecDepth 20000 in
theorem gL_law_X13_cat : GoodIn wsL_law (wsV RL 49 RX13 yX13_cat wsX13_cat) := goodIn_app (goodIn_of _ (by decide +kernel)) ggL_law_X13_cat
set_option maxRecDepth 20000 in
theorem ggL_law_X12_swap : GoodIn wsL_law wsX12_swap := goodIn_r _ [519, 16, 15, 30, 242, 243, 244, 14, 245, 49, 246, 247, 248, 249, 50, 54, 58, 62, 185, 186, 187, 188, 250, 251, 252, 53, 253, 67, 254, 68, 69, 193, 194, 255, 256, 257, 57, 258, 73, 259, 74, 260, 261, 262, 61, 263, 78, 264, 79, 80, 204, 520, 521, 522, 523, 409, 372, 286, 373, 487, 359, 2, 360, 361, 269, 270, 271, 272, 273, 29, 274, 104, 105, 106, 107, 410, 411, 412, 413, 414, 285, 287, 362, 363, 364, 365, 488, 489, 490, 491, 524, 525, 526, 527, 275, 276, 277, 278, 22, 279, 280, 281, 21, 282, 90, 283, 209, 284, 288, 1404, 1405, 1406, 1407, 1408, 1409, 1410, 1411, 1412, 1413, 1414, 1442, 1443, 1444, 1445, 1446, 1447, 1448, 1449, 1450, 1451, 1475, 1476, 1477, 1478, 1479, 1480, 1481, 1482, 1483, 1484, 1485, 1463, 1464, 1465, 1466, 1452, 1453, 1454] (by decide +kernel) (by decide +kernel)
set_option maxRecDepth 20000 in
theorem gL_law_X12_swap : GoodIn wsL_law (wsV RL 50 RX12 yX12_swap wsX12_swap) := goodIn_app (goodIn_of _ (by decide +kernel)) ggL_law_X12_swap
set_option maxRecDepth 20000 in
theorem ggL_law_X13_swap : GoodIn wsL_law wsX13_swap := goodIn_r _ [531, 293, 294, 295, 5, 296, 142, 143, 297, 298, 299, 378, 379, 380, 300, 301, 302, 235, 236, 237, 532, 533, 534, 535, 436, 437, 438, 439, 385, 386, 387, 388, 310, 311, 312, 313, 148, 149, 440, 441, 442, 443, 444, 445, 446, 447, 448, 449, 450, 218, 219, 220, 221, 389, 390, 391, 392, 393, 394, 395, 396, 504, 505, 506, 507, 508, 509, 510, 511, 314, 315, 316, 317, 150, 151, 152, 536, 537, 538, 539, 540, 541, 542, 543, 322, 323, 324, 325, 147, 146, 1415, 1416, 1417, 1418, 1419, 1420, 1421, 1422, 1423, 1424, 1425, 1426, 1427, 1428, 1429, 1430, 1431, 1432, 1433, 1434, 1435, 1436, 1437, 1438, 1439, 1440, 1441] (by decide +kernel) (by decide +kernel)
set_option maxRecDepth 20000 in
theorem gL_law_X13_swap : GoodIn wsL_law (wsV RL 53 RX13 yX13_swap wsX13_swap) := goodIn_app (goodIn_of _ (by decide +kernel)) ggL_law_X13_swap
set_option maxRecDepth 20000 in
theorem ggL_law_X12_day : GoodIn wsL_law wsX12_day := goodIn_r _ [547, 16, 15, 242, 243, 244, 14, 245, 49, 246, 247, 248, 249, 50, 54, 58, 62, 185, 186, 187, 188, 250, 251, 252, 53, 253, 67, 254, 68, 69, 193, 194, 255, 256, 257, 57, 258, 73, 259, 74, 260, 261, 262, 61, 263, 78, 264, 79, 80, 204, 548, 549, 550, 551, 63, 552, 553, 554, 555, 556, 557, 558, 559, 560, 561, 562, 199, 82, 83, 84, 275, 276, 277, 2, 278, 22, 279, 280, 281, 21, 282, 90, 283, 209, 284, 285, 286, 287, 288, 1404, 1405, 1406, 1407, 1408, 1409, 1410, 1411, 1412, 1413, 1414, 1442, 1443, 1444, 1445, 1446, 1447, 1448, 1449, 1450, 1451, 1475, 1476, 1477, 1478, 1479, 1480, 1481, 1482, 1483, 1484, 1485, 1452, 1453, 1454] (by decide +kernel) (by decide +kernel)
set_option maxRecDepth 20000 in
theorem gL_law_X12_day : GoodIn wsL_law (wsV RL 54 RX12 yX12_day wsX12_day) := goodIn_app (goodIn_of _ (by decide +kernel)) ggL_law_X12_day
set_option maxRecDepth 20000 in
theorem ggL_law_X13_day : GoodIn wsL_law wsX13_day := goodIn_r _ [566, 293, 294, 295, 5, 296, 142, 143, 297, 298, 299, 567, 568, 569, 570, 571, 572, 573, 574, 575, 576, 577, 578, 218, 219, 220, 221, 235, 236, 237, 579, 580, 581, 582, 583, 584, 585, 586, 393, 394, 395, 396, 322, 323, 324, 325, 147, 146, 1415, 1416, 1417, 1418, 1419, 1420, 1421, 1422, 1423, 1424, 1425, 1426, 1427, 1428, 1429, 1430, 1431, 1432, 1433, 1434, 1435, 1436, 1437, 1438, 1439, 1440, 1441] (by decide +kernel) (by decide +kernel)
set_option maxRecDepth 20000 in
theorem gL_law_X13_day : GoodIn wsL_law (wsV RL 57 RX13 yX13_day wsX13_day) := goodIn_app (goodIn_of _ (by decide +kernel)) ggL_law_X13_day
set_option maxRecDepth 20000 in
theorem ggL_law_X12_read : GoodIn wsL_law wsX12_read := goodIn_r _ [590, 26, 591, 43, 16, 15, 592, 593, 594, 25, 595, 596, 597, 230, 598, 599, 600, 601, 97, 602, 98, 99, 603, 100, 604, 605, 606, 607, 608, 609, 372, 286, 373, 610, 611, 612, 613, 96, 614, 615, 616, 617, 618, 619, 620, 621, 622, 623, 624, 625, 626, 627, 628, 629, 630, 631, 632, 633, 634, 635, 636, 637, 638, 639, 640, 641, 642, 643, 644, 645, 646, 647, 132, 648, 649, 650, 651, 652, 653, 654, 655, 656, 657, 658, 659, 660, 661, 662, 663, 664, 665, 666, 667, 668, 669, 670, 671, 672, 673, 674, 675, 676, 677, 242, 243, 244, 14, 245, 49, 246, 247, 248, 249, 50, 54, 58, 62, 185, 186, 187, 188, 250, 251, 252, 53, 253, 67, 254, 68, 69, 193, 194, 255, 256, 257, 57, 258, 73, 259, 74, 260, 261, 262, 61, 263, 78, 264, 79, 80, 204, 678, 679, 680, 2, 681, 682, 30, 683, 684, 685, 686, 687, 688, 689, 690, 691, 692, 693, 694, 695, 696, 697, 698, 699, 265, 266, 267, 268, 269, 270, 271, 272, 273, 29, 274, 104, 105, 106, 107, 330, 331, 332, 333, 353, 354, 355, 356, 357, 358, 359, 360, 361, 362, 363, 364, 365, 366, 367, 368, 369, 370, 285, 287, 371, 405, 406, 407, 408, 409, 410, 411, 412, 413, 414, 415, 416, 417, 418, 419, 420, 421, 422, 423, 424, 425, 426, 427, 463, 464, 465, 466, 483, 484, 485, 486, 487, 488, 489, 490, 491, 492, 493, 494, 495, 520, 521, 522, 523, 524, 525, 526, 527, 548, 549, 550, 551, 63, 552, 553, 554, 555, 556, 557, 558, 559, 560, 561, 562, 199, 82, 83, 84, 700, 701, 702, 703, 704, 275, 276, 277, 278, 22, 279, 280, 281, 21, 282, 90, 283, 209, 284, 288, 1404, 1405, 1406, 1407, 1408, 1409, 1410, 1411, 1412, 1413, 1414, 1455, 1456, 1457, 1458, 1459, 1460, 1461, 1462, 1442, 1443, 1444, 1445, 1446, 1447, 1448, 1449, 1450, 1451, 1475, 1476, 1477, 1478, 1479, 1480, 1481, 1482, 1483, 1484, 1485, 1463, 1464, 1465, 1466, 1452, 1453, 1454] (by decide +kernel) (by decide +kernel)
set_option maxRecDepth 20000 in
theorem gL_law_X12_read : GoodIn wsL_law (wsV RL 58 RX12 yX12_read wsX12_read) := goodIn_app (goodIn_of _ (by decide +kernel)) ggL_law_X12_read
set_option maxRecDepth 20000 in
theorem ggL_law_X13_read : GoodIn wsL_law wsX13_read := goodIn_r _ [708, 167, 165, 154, 166, 143, 142, 168, 148, 152, 149, 153, 150, 151, 293, 294, 295, 5, 296, 297, 298, 299, 709, 710, 711, 712, 163, 164, 713, 714, 715, 716, 161, 162, 717, 718, 719, 720, 160, 721, 722, 723, 724, 725, 726, 727, 728, 729, 730, 731, 732, 733, 734, 735, 736, 737, 738, 235, 236, 237, 739, 740, 741, 742, 300, 301, 302, 303, 304, 305, 743, 744, 745, 746, 306, 307, 308, 309, 218, 219, 220, 221, 310, 311, 312, 313, 318, 319, 320, 321, 338, 339, 340, 341, 342, 343, 344, 345, 346, 347, 348, 378, 379, 380, 381, 382, 383, 384, 385, 386, 387, 388, 389, 390, 391, 392, 393, 394, 395, 396, 397, 398, 399, 400, 432, 433, 434, 435, 436, 437, 438, 439, 440, 441, 442, 443, 444, 445, 446, 447, 448, 449, 450, 451, 452, 453, 454, 455, 456, 457, 458, 471, 472, 473, 474, 475, 476, 477, 478, 500, 501, 502, 503, 504, 505, 506, 507, 508, 509, 510, 511, 512, 513, 514, 515, 532, 533, 534, 535, 536, 537, 538, 539, 540, 541, 542, 543, 567, 568, 569, 570, 571, 572, 573, 574, 575, 576, 577, 578, 579, 580, 581, 582, 583, 584, 585, 586, 322, 323, 324, 325, 147, 146, 1415, 1416, 1417, 1418, 1419, 1420, 1421, 1422, 1423, 1424, 1425, 1426, 1427, 1428, 1429, 1430, 1431, 1432, 1433, 1434, 1435, 1436, 1437, 1438, 1439, 1440, 1441] (by decide +kernel) (by decide +kernel)
set_option maxRecDepth 20000 in
theorem gL_law_X13_read : GoodIn wsL_law (wsV RL 61 RX13 yX13_read wsX13_read) := goodIn_app (goodIn_of _ (by decide +kernel)) ggL_law_X13_read
set_option maxRecDepth 20000 in
theorem ggL_law_X12_fault : GoodIn wsL_law wsX12_fault := goodIn_r _ [750, 43, 1404, 1405, 1406, 1407, 1408, 1409, 1410, 1411, 1412, 1413, 1414] (by decide +kernel) (by decide +kernel)
set_option maxRecDepth 20000 in
theorem gL_law_X12_fault : GoodIn wsL_law (wsV RL 62 RX12 yX12_fault wsX12_fault) := goodIn_app (goodIn_of _ (by decide +kernel)) ggL_law_X12_fault
set_option maxRecDepth 20000 in
theorem ggL_law_X13_fault : GoodIn wsL_law wsX13_fault := goodIn_r _ [754, 154, 1415, 1416, 1417, 1418, 1419, 1420, 1421, 1422, 1423, 1424, 1425, 1426, 1427, 1428, 1429, 1430, 1431, 1432, 1433, 1434, 1435, 1436, 1437, 1438, 1439, 1440, 1441] (by decide +kernel) (by decide +kernel)
set_option maxRecDepth 20000 in
theorem gL_law_X13_fault : GoodIn wsL_law (wsV RL 65 RX13 yX13_fault wsX13_fault) := goodIn_app (goodIn_of _ (by decide +kernel)) ggL_law_X13_fault
set_option maxRecDepth 20000 in
theorem ggL_law_X12_reason : GoodIn wsL_law wsX12_reason := goodIn_r _ [758, 30, 759, 760, 761, 762, 1404, 1405, 1406, 1407, 1408, 1409, 1410, 1411, 1412, 1413, 1414, 1463, 1464, 1465, 1466] (by decide +kernel) (by decide +kernel)
set_option maxRecDepth 20000 in
theorem gL_law_X12_reason : GoodIn wsL_law (wsV RL 66 RX12 yX12_reason wsX12_reason) := goodIn_app (goodIn_of _ (by decide +kernel)) ggL_law_X12_reason
set_option maxRecDepth 20000 in
theorem ggL_law_X13_reason : GoodIn wsL_law wsX13_reason := goodIn_r _ [766, 152, 150, 153, 151, 235, 236, 5, 237, 1415, 1416, 1417, 1418, 1419, 1420, 1421, 1422, 1423, 1424, 1425, 1426, 1427, 1428, 1429, 1430, 1431, 1432, 1433, 1434, 1435, 1436, 1437, 1438, 1439, 1440, 1441] (by decide +kernel) (by decide +kernel)
set_option maxRecDepth 20000 in
theorem gL_law_X13_reason : GoodIn wsL_law (wsV RL 70 RX13 yX13_reason wsX13_reason) := goodIn_app (goodIn_of _ (by decide +kernel)) ggL_law_X13_reason
set_option maxRecDepth 20000 in
theorem ggL_law_X12_balconyOf : GoodIn wsL_law wsX12_balconyOf := goodIn_r _ [770, 15, 771, 772, 773, 774, 775, 361, 269, 2, 270, 776, 489, 490, 61, 491, 204, 78, 777, 778, 779, 780, 781, 411, 412, 14, 413, 409, 372, 286, 373, 414, 285, 287, 49, 50, 54, 362, 363, 364, 53, 365, 193, 67, 68, 782, 783, 784, 57, 785, 427, 420, 421, 422, 73, 786, 787, 788, 789, 790, 791, 792, 793, 794, 795, 796, 797, 1404, 1405, 1406, 1407, 1408, 1409, 1410, 1411, 1412, 1413, 1414, 1442, 1443, 1444, 1445, 1446, 1447, 1448, 1449, 1450, 1451, 1482, 1483, 1484, 1485, 1475, 1476, 1477, 1478, 1479, 1480, 1481] (by decide +kernel) (by decide +kernel)
set_option maxRecDepth 20000 in
theorem gL_law_X12_balconyOf : GoodIn wsL_law (wsV RL 71 RX12 yX12_balconyOf wsX12_balconyOf) := goodIn_app (goodIn_of _ (by decide +kernel)) ggL_law_X12_balconyOf
set_option maxRecDepth 20000 in
theorem ggL_law_X13_balconyOf : GoodIn wsL_law wsX13_balconyOf := goodIn_r _ [801, 142, 300, 301, 5, 302, 235, 236, 237, 218, 219, 220, 221, 504, 505, 506, 507, 508, 509, 510, 511, 802, 803, 804, 805, 440, 441, 442, 443, 444, 445, 446, 447, 448, 449, 450, 389, 390, 391, 392, 393, 394, 395, 396, 806, 807, 808, 809, 451, 452, 453, 454, 810, 811, 812, 813, 814, 815, 816, 817, 818, 819, 820, 821, 1415, 1416, 1417, 1418, 1419, 1420, 1421, 1422, 1423, 1424, 1425, 1426, 1427, 1428, 1429, 1430, 1431, 1432, 1433, 1434, 1435, 1436, 1437, 1438, 1439, 1440, 1441] (by decide +kernel) (by decide +kernel)
set_option maxRecDepth 20000 in
theorem gL_law_X13_balconyOf : GoodIn wsL_law (wsV RL 74 RX13 yX13_balconyOf wsX13_balconyOf) := goodIn_app (goodIn_of _ (by decide +kernel)) ggL_law_X13_balconyOf
set_option maxRecDepth 20000 in
theorem ggL_law_X12_feud : GoodIn wsL_law wsX12_feud := goodIn_r _ [825, 15, 826, 359, 2, 360, 361, 269, 270, 827, 411, 412, 14, 413, 409, 372, 286, 373, 414, 285, 287, 49, 50, 54, 362, 363, 364, 53, 365, 193, 67, 68, 1404, 1405, 1406, 1407, 1408, 1409, 1410, 1411, 1412, 1413, 1414, 1442, 1443, 1444, 1445, 1446, 1447, 1448, 1449, 1450, 1451, 1475, 1476, 1477, 1478, 1479] (by decide +kernel) (by decide +kernel)
set_option maxRecDepth 20000 in
theorem gL_law_X12_feud : GoodIn wsL_law (wsV RL 75 RX12 yX12_feud wsX12_feud) := goodIn_app (goodIn_of _ (by decide +kernel)) ggL_law_X12_feud
set_option maxRecDepth 20000 in
theorem ggL_law_X13_feud : GoodIn wsL_law wsX13_feud := goodIn_r _ [831, 378, 379, 5, 380, 300, 301, 302, 235, 236, 237, 440, 441, 442, 443, 444, 445, 446, 447, 142, 448, 449, 450, 218, 219, 220, 221, 389, 390, 391, 392, 393, 394, 395, 396, 1415, 1416, 1417, 1418, 1419, 1420, 1421, 1422, 1423, 1424, 1425, 1426, 1427, 1428, 1429, 1430, 1431, 1432, 1433, 1434, 1435, 1436, 1437, 1438, 1439, 1440, 1441] (by decide +kernel) (by decide +kernel)
set_option maxRecDepth 20000 in
theorem gL_law_X13_feud : GoodIn wsL_law (wsV RL 78 RX13 yX13_feud wsX13_feud) := goodIn_app (goodIn_of _ (by decide +kernel)) ggL_law_X13_feud
set_option maxRecDepth 20000 in
theorem ggL_law_X12_greeted : GoodIn wsL_law wsX12_greeted := goodIn_r _ [835, 15, 774, 826, 359, 2, 360, 361, 269, 270, 836, 420, 421, 57, 422, 73, 1404, 1405, 1406, 1407, 1408, 1409, 1410, 1411, 1412, 1413, 1414, 1442, 1443, 1444, 1445, 1446, 1447, 1448, 1449, 1450, 1451, 1480, 1481] (by decide +kernel) (by decide +kernel)
set_option maxRecDepth 20000 in
theorem gL_law_X12_greeted : GoodIn wsL_law (wsV RL 79 RX12 yX12_greeted wsX12_greeted) := goodIn_app (goodIn_of _ (by decide +kernel)) ggL_law_X12_greeted
set_option maxRecDepth 20000 in
theorem ggL_law_X13_greeted : GoodIn wsL_law wsX13_greeted := goodIn_r _ [840, 378, 379, 5, 380, 300, 301, 302, 235, 236, 237, 451, 452, 453, 454, 142, 1415, 1416, 1417, 1418, 1419, 1420, 1421, 1422, 1423, 1424, 1425, 1426, 1427, 1428, 1429, 1430, 1431, 1432, 1433, 1434, 1435, 1436, 1437, 1438, 1439, 1440, 1441] (by decide +kernel) (by decide +kernel)
set_option maxRecDepth 20000 in
theorem gL_law_X13_greeted : GoodIn wsL_law (wsV RL 82 RX13 yX13_greeted wsX13_greeted) := goodIn_app (goodIn_of _ (by decide +kernel)) ggL_law_X13_greeted
set_option maxRecDepth 20000 in
theorem ggL_law_X12_catOf : GoodIn wsL_law wsX12_catOf := goodIn_r _ [844, 15, 773, 845, 846, 847, 848, 34, 849, 850, 851, 852, 33, 853, 111, 854, 82, 83, 84, 855, 856, 857, 858, 859, 860, 861, 14, 862, 863, 864, 865, 410, 411, 412, 413, 409, 372, 286, 373, 414, 285, 287, 49, 50, 54, 362, 363, 364, 53, 365, 193, 67, 68, 1404, 1405, 1406, 1407, 1408, 1409, 1410, 1411, 1412, 1413, 1414, 1442, 1443, 1444, 1445, 1446, 1447, 1448, 1449, 1450, 1451, 1482, 1483, 1484, 1485, 1467, 1468, 1475, 1476, 1477, 1478, 1479] (by decide +kernel) (by decide +kernel)
set_option maxRecDepth 20000 in
theorem gL_law_X12_catOf : GoodIn wsL_law (wsV RL 83 RX12 yX12_catOf wsX12_catOf) := goodIn_app (goodIn_of _ (by decide +kernel)) ggL_law_X12_catOf
set_option maxRecDepth 20000 in
theorem ggL_law_X13_catOf : GoodIn wsL_law wsX13_catOf := goodIn_r _ [869, 142, 235, 236, 5, 237, 508, 509, 510, 511, 870, 871, 872, 873, 156, 874, 875, 876, 877, 157, 878, 879, 880, 881, 882, 883, 884, 440, 441, 442, 443, 444, 445, 446, 447, 448, 449, 450, 218, 219, 220, 221, 389, 390, 391, 392, 393, 394, 395, 396, 1415, 1416, 1417, 1418, 1419, 1420, 1421, 1422, 1423, 1424, 1425, 1426, 1427, 1428, 1429, 1430, 1431, 1432, 1433, 1434, 1435, 1436, 1437, 1438, 1439, 1440, 1441] (by decide +kernel) (by decide +kernel)
set_option maxRecDepth 20000 in
theorem gL_law_X13_catOf : GoodIn wsL_law (wsV RL 86 RX13 yX13_catOf wsX13_catOf) := goodIn_app (goodIn_of _ (by decide +kernel)) ggL_law_X13_catOf
set_option maxRecDepth 20000 in
theorem ggL_law_X12_lineOf : GoodIn wsL_law wsX12_lineOf := goodIn_r _ [888, 15, 775, 889, 890, 891, 892, 1404, 1405, 1406, 1407, 1408, 1409, 1410, 1411, 1412, 1413, 1414, 1442, 1443, 1444, 1445, 1446, 1447, 1448, 1449, 1450, 1451, 1475, 1476, 1477, 1478, 1479] (by decide +kernel) (by decide +kernel)
set_option maxRecDepth 20000 in
theorem gL_law_X12_lineOf : GoodIn wsL_law (wsV RL 87 RX12 yX12_lineOf wsX12_lineOf) := goodIn_app (goodIn_of _ (by decide +kernel)) ggL_law_X12_lineOf
set_option maxRecDepth 20000 in
theorem ggL_law_X13_lineOf : GoodIn wsL_law wsX13_lineOf := goodIn_r _ [896, 142, 235, 236, 5, 237, 393, 394, 395, 396, 1415, 1416, 1417, 1418, 1419, 1420, 1421, 1422, 1423, 1424, 1425, 1426, 1427, 1428, 1429, 1430, 1431, 1432, 1433, 1434, 1435, 1436, 1437, 1438, 1439, 1440, 1441] (by decide +kernel) (by decide +kernel)
set_option maxRecDepth 20000 in
theorem gL_law_X13_lineOf : GoodIn wsL_law (wsV RL 90 RX13 yX13_lineOf wsX13_lineOf) := goodIn_app (goodIn_of _ (by decide +kernel)) ggL_law_X13_lineOf
set_option maxRecDepth 20000 in
theorem ggL_law_X12_feuds : GoodIn wsL_law wsX12_feuds := goodIn_r _ [900, 15, 901, 902, 779, 903, 781, 411, 412, 14, 413, 409, 372, 286, 373, 414, 285, 287, 49, 50, 54, 362, 363, 364, 53, 365, 193, 67, 68, 1404, 1405, 1406, 1407, 1408, 1409, 1410, 1411, 1412, 1413, 1414, 1442, 1443, 1444, 1445, 1446, 1447, 1448, 1449, 1450, 1451, 1475, 1476, 1477, 1478, 1479] (by decide +kernel) (by decide +kernel)
set_option maxRecDepth 20000 in
theorem gL_law_X12_feuds : GoodIn wsL_law (wsV RL 91 RX12 yX12_feuds wsX12_feuds) := goodIn_app (goodIn_of _ (by decide +kernel)) ggL_law_X12_feuds
set_option maxRecDepth 20000 in
theorem ggL_law_X13_feuds : GoodIn wsL_law wsX13_feuds := goodIn_r _ [907, 908, 909, 910, 5, 911, 802, 803, 804, 805, 440, 441, 442, 443, 444, 445, 446, 447, 142, 448, 449, 450, 218, 219, 220, 221, 389, 390, 391, 392, 393, 394, 395, 396, 1415, 1416, 1417, 1418, 1419, 1420, 1421, 1422, 1423, 1424, 1425, 1426, 1427, 1428, 1429, 1430, 1431, 1432, 1433, 1434, 1435, 1436, 1437, 1438, 1439, 1440, 1441] (by decide +kernel) (by decide +kernel)
set_option maxRecDepth 20000 in
theorem gL_law_X13_feuds : GoodIn wsL_law (wsV RL 94 RX13 yX13_feuds wsX13_feuds) := goodIn_app (goodIn_of _ (by decide +kernel)) ggL_law_X13_feuds
set_option maxRecDepth 20000 in
theorem ggL_law_X12_feudsAgain : GoodIn wsL_law wsX12_feudsAgain := goodIn_r _ [915, 15, 916, 917, 779, 918, 919, 920, 921, 922, 923, 924, 925, 926, 927, 928, 929, 930, 1404, 1405, 1406, 1407, 1408, 1409, 1410, 1411, 1412, 1413, 1414, 1442, 1443, 1444, 1445, 1446, 1447, 1448, 1449, 1450, 1451, 1475, 1476, 1477, 1478, 1479] (by decide +kernel) (by decide +kernel)
set_option maxRecDepth 20000 in
theorem gL_law_X12_feudsAgain : GoodIn wsL_law (wsV RL 95 RX12 yX12_feudsAgain wsX12_feudsAgain) := goodIn_app (goodIn_of _ (by decide +kernel)) ggL_law_X12_feudsAgain
set_option maxRecDepth 20000 in
theorem ggL_law_X13_feudsAgain : GoodIn wsL_law wsX13_feudsAgain := goodIn_r _ [934, 908, 909, 910, 5, 911, 802, 803, 804, 805, 440, 441, 442, 443, 444, 445, 446, 447, 142, 448, 449, 450, 218, 219, 220, 221, 389, 390, 391, 392, 393, 394, 395, 396, 1415, 1416, 1417, 1418, 1419, 1420, 1421, 1422, 1423, 1424, 1425, 1426, 1427, 1428, 1429, 1430, 1431, 1432, 1433, 1434, 1435, 1436, 1437, 1438, 1439, 1440, 1441] (by decide +kernel) (by decide +kernel)
set_option maxRecDepth 20000 in
theorem gL_law_X13_feudsAgain : GoodIn wsL_law (wsV RL 98 RX13 yX13_feudsAgain wsX13_feudsAgain) := goodIn_app (goodIn_of _ (by decide +kernel)) ggL_law_X13_feudsAgain
set_option maxRecDepth 20000 in
theorem ggL_law_X12_excess : GoodIn wsL_law wsX12_excess := goodIn_r _ [938, 15, 939, 940, 779, 941, 923, 942, 372, 286, 373, 943, 944, 945, 919, 924, 946, 285, 287, 947, 363, 364, 53, 365, 193, 67, 68, 1404, 1405, 1406, 1407, 1408, 1409, 1410, 1411, 1412, 1413, 1414, 1442, 1443, 1444, 1445, 1446, 1447, 1448, 1449, 1450, 1451, 1475, 1476, 1477, 1478, 1479] (by decide +kernel) (by decide +kernel)
set_option maxRecDepth 20000 in
theorem gL_law_X12_excess : GoodIn wsL_law (wsV RL 99 RX12 yX12_excess wsX12_excess) := goodIn_app (goodIn_of _ (by decide +kernel)) ggL_law_X12_excess
set_option maxRecDepth 20000 in
theorem ggL_law_X13_excess : GoodIn wsL_law wsX13_excess := goodIn_r _ [951, 952, 953, 954, 5, 955, 956, 957, 958, 959, 142, 444, 445, 446, 447, 448, 449, 450, 218, 219, 220, 221, 389, 390, 391, 392, 393, 394, 395, 396, 1415, 1416, 1417, 1418, 1419, 1420, 1421, 1422, 1423, 1424, 1425, 1426, 1427, 1428, 1429, 1430, 1431, 1432, 1433, 1434, 1435, 1436, 1437, 1438, 1439, 1440, 1441] (by decide +kernel) (by decide +kernel)
set_option maxRecDepth 20000 in
theorem gL_law_X13_excess : GoodIn wsL_law (wsV RL 102 RX13 yX13_excess wsX13_excess) := goodIn_app (goodIn_of _ (by decide +kernel)) ggL_law_X13_excess
set_option maxRecDepth 20000 in
theorem ggL_law_X12_excessAgain : GoodIn wsL_law wsX12_excessAgain := goodIn_r _ [963, 16, 15, 242, 243, 244, 14, 245, 49, 246, 247, 248, 249, 50, 54, 58, 62, 185, 186, 187, 188, 250, 251, 252, 53, 253, 67, 254, 68, 69, 193, 194, 255, 256, 257, 57, 258, 73, 259, 74, 260, 261, 262, 61, 263, 78, 264, 79, 80, 204, 964, 965, 779, 966, 923, 967, 968, 969, 781, 411, 412, 413, 409, 372, 286, 373, 414, 285, 287, 362, 363, 364, 365, 1404, 1405, 1406, 1407, 1408, 1409, 1410, 1411, 1412, 1413, 1414, 1442, 1443, 1444, 1445, 1446, 1447, 1448, 1449, 1450, 1451, 1475, 1476, 1477, 1478, 1479, 1480, 1481, 1482, 1483, 1484, 1485] (by decide +kernel) (by decide +kernel)
set_option maxRecDepth 20000 in
theorem gL_law_X12_excessAgain : GoodIn wsL_law (wsV RL 103 RX12 yX12_excessAgain wsX12_excessAgain) := goodIn_app (goodIn_of _ (by decide +kernel)) ggL_law_X12_excessAgain
set_option maxRecDepth 20000 in
theorem ggL_law_X13_excessAgain : GoodIn wsL_law wsX13_excessAgain := goodIn_r _ [973, 952, 953, 954, 5, 955, 956, 957, 958, 959, 142, 444, 445, 446, 447, 448, 449, 450, 218, 219, 220, 221, 389, 390, 391, 392, 393, 394, 395, 396, 1415, 1416, 1417, 1418, 1419, 1420, 1421, 1422, 1423, 1424, 1425, 1426, 1427, 1428, 1429, 1430, 1431, 1432, 1433, 1434, 1435, 1436, 1437, 1438, 1439, 1440, 1441] (by decide +kernel) (by decide +kernel)
set_option maxRecDepth 20000 in
theorem gL_law_X13_excessAgain : GoodIn wsL_law (wsV RL 106 RX13 yX13_excessAgain wsX13_excessAgain) := goodIn_app (goodIn_of _ (by decide +kernel)) ggL_law_X13_excessAgain
set_option maxRecDepth 20000 in
theorem ggL_law_X12_census : GoodIn wsL_law wsX12_census := goodIn_r _ [977, 15, 774, 978, 979, 980, 57, 981, 982, 783, 784, 785, 427, 420, 421, 422, 73, 1404, 1405, 1406, 1407, 1408, 1409, 1410, 1411, 1412, 1413, 1414, 1442, 1443, 1444, 1445, 1446, 1447, 1448, 1449, 1450, 1451, 1480, 1481] (by decide +kernel) (by decide +kernel)
set_option maxRecDepth 20000 in
theorem gL_law_X12_census : GoodIn wsL_law (wsV RL 107 RX12 yX12_census wsX12_census) := goodIn_app (goodIn_of _ (by decide +kernel)) ggL_law_X12_census
set_option maxRecDepth 20000 in
theorem ggL_law_X13_census : GoodIn wsL_law wsX13_census := goodIn_r _ [986, 987, 988, 989, 5, 990, 806, 807, 808, 809, 451, 452, 453, 454, 142, 1415, 1416, 1417, 1418, 1419, 1420, 1421, 1422, 1423, 1424, 1425, 1426, 1427, 1428, 1429, 1430, 1431, 1432, 1433, 1434, 1435, 1436, 1437, 1438, 1439, 1440, 1441] (by decide +kernel) (by decide +kernel)
set_option maxRecDepth 20000 in
theorem gL_law_X13_census : GoodIn wsL_law (wsV RL 110 RX13 yX13_census wsX13_census) := goodIn_app (goodIn_of _ (by decide +kernel)) ggL_law_X13_census
set_option maxRecDepth 20000 in
theorem ggL_law_X12_censusAgain : GoodIn wsL_law wsX12_censusAgain := goodIn_r _ [994, 15, 774, 995, 996, 997, 57, 998, 999, 787, 788, 789, 427, 420, 421, 422, 73, 1404, 1405, 1406, 1407, 1408, 1409, 1410, 1411, 1412, 1413, 1414, 1442, 1443, 1444, 1445, 1446, 1447, 1448, 1449, 1450, 1451, 1480, 1481] (by decide +kernel) (by decide +kernel)
set_option maxRecDepth 20000 in
theorem gL_law_X12_censusAgain : GoodIn wsL_law (wsV RL 111 RX12 yX12_censusAgain wsX12_censusAgain) := goodIn_app (goodIn_of _ (by decide +kernel)) ggL_law_X12_censusAgain
set_option maxRecDepth 20000 in
theorem ggL_law_X13_censusAgain : GoodIn wsL_law wsX13_censusAgain := goodIn_r _ [1003, 987, 988, 989, 5, 990, 806, 807, 808, 809, 451, 452, 453, 454, 142, 1415, 1416, 1417, 1418, 1419, 1420, 1421, 1422, 1423, 1424, 1425, 1426, 1427, 1428, 1429, 1430, 1431, 1432, 1433, 1434, 1435, 1436, 1437, 1438, 1439, 1440, 1441] (by decide +kernel) (by decide +kernel)
set_option maxRecDepth 20000 in
theorem gL_law_X13_censusAgain : GoodIn wsL_law (wsV RL 114 RX13 yX13_censusAgain wsX13_censusAgain) := goodIn_app (goodIn_of _ (by decide +kernel)) ggL_law_X13_censusAgain
set_option maxRecDepth 20000 in
theorem ggL_law_X12_steps : GoodIn wsL_law wsX12_steps := goodIn_r _ [1007, 34, 15, 849, 826, 359, 2, 360, 361, 269, 270, 850, 851, 852, 33, 853, 111, 854, 82, 83, 84, 855, 856, 857, 858, 859, 860, 861, 14, 862, 863, 864, 865, 410, 411, 412, 413, 409, 372, 286, 373, 414, 285, 287, 49, 50, 54, 362, 363, 364, 53, 365, 193, 67, 68, 1404, 1405, 1406, 1407, 1408, 1409, 1410, 1411, 1412, 1413, 1414, 1467, 1468, 1442, 1443, 1444, 1445, 1446, 1447, 1448, 1449, 1450, 1451, 1475, 1476, 1477, 1478, 1479] (by decide +kernel) (by decide +kernel)
set_option maxRecDepth 20000 in
theorem gL_law_X12_steps : GoodIn wsL_law (wsV RL 115 RX12 yX12_steps wsX12_steps) := goodIn_app (goodIn_of _ (by decide +kernel)) ggL_law_X12_steps
set_option maxRecDepth 20000 in
theorem ggL_law_X13_steps : GoodIn wsL_law wsX13_steps := goodIn_r _ [1011, 378, 379, 5, 380, 300, 301, 302, 235, 236, 237, 870, 871, 872, 873, 156, 874, 875, 876, 877, 157, 878, 879, 880, 881, 882, 883, 884, 440, 441, 442, 443, 444, 445, 446, 447, 142, 448, 449, 450, 218, 219, 220, 221, 389, 390, 391, 392, 393, 394, 395, 396, 1415, 1416, 1417, 1418, 1419, 1420, 1421, 1422, 1423, 1424, 1425, 1426, 1427, 1428, 1429, 1430, 1431, 1432, 1433, 1434, 1435, 1436, 1437, 1438, 1439, 1440, 1441] (by decide +kernel) (by decide +kernel)
set_option maxRecDepth 20000 in
theorem gL_law_X13_steps : GoodIn wsL_law (wsV RL 118 RX13 yX13_steps wsX13_steps) := goodIn_app (goodIn_of _ (by decide +kernel)) ggL_law_X13_steps
set_option maxRecDepth 20000 in
theorem ggL_law_X12_stepsAgain : GoodIn wsL_law wsX12_stepsAgain := goodIn_r _ [1015, 34, 15, 1016, 826, 359, 2, 360, 361, 269, 270, 1017, 1018, 1019, 33, 1020, 112, 854, 82, 83, 84, 1021, 1022, 1023, 1024, 859, 860, 861, 14, 862, 863, 864, 865, 410, 411, 412, 413, 409, 372, 286, 373, 414, 285, 287, 49, 50, 54, 362, 363, 364, 53, 365, 193, 67, 68, 1404, 1405, 1406, 1407, 1408, 1409, 1410, 1411, 1412, 1413, 1414, 1467, 1468, 1442, 1443, 1444, 1445, 1446, 1447, 1448, 1449, 1450, 1451, 1475, 1476, 1477, 1478, 1479] (by decide +kernel) (by decide +kernel)
set_option maxRecDepth 20000 in
theorem gL_law_X12_stepsAgain : GoodIn wsL_law (wsV RL 119 RX12 yX12_stepsAgain wsX12_stepsAgain) := goodIn_app (goodIn_of _ (by decide +kernel)) ggL_law_X12_stepsAgain
set_option maxRecDepth 20000 in
theorem ggL_law_X13_stepsAgain : GoodIn wsL_law wsX13_stepsAgain := goodIn_r _ [1028, 378, 379, 5, 380, 300, 301, 302, 235, 236, 237, 870, 871, 872, 873, 156, 874, 875, 876, 877, 157, 878, 879, 880, 881, 882, 883, 884, 440, 441, 442, 443, 444, 445, 446, 447, 142, 448, 449, 450, 218, 219, 220, 221, 389, 390, 391, 392, 393, 394, 395, 396, 1415, 1416, 1417, 1418, 1419, 1420, 1421, 1422, 1423, 1424, 1425, 1426, 1427, 1428, 1429, 1430, 1431, 1432, 1433, 1434, 1435, 1436, 1437, 1438, 1439, 1440, 1441] (by decide +kernel) (by decide +kernel)
set_option maxRecDepth 20000 in
theorem gL_law_X13_stepsAgain : GoodIn wsL_law (wsV RL 122 RX13 yX13_stepsAgain wsX13_stepsAgain) := goodIn_app (goodIn_of _ (by decide +kernel)) ggL_law_X13_stepsAgain
set_option maxRecDepth 20000 in
theorem ggL_law_X12_way : GoodIn wsL_law wsX12_way := goodIn_r _ [1032, 34, 15, 826, 359, 2, 360, 361, 269, 270, 1033, 1034, 1035, 33, 1036, 111, 1037, 851, 852, 853, 854, 82, 83, 84, 855, 856, 857, 858, 859, 860, 861, 14, 862, 863, 864, 865, 410, 411, 412, 413, 409, 372, 286, 373, 414, 285, 287, 49, 50, 54, 362, 363, 364, 53, 365, 193, 67, 68, 1038, 1039, 1040, 1041, 1404, 1405, 1406, 1407, 1408, 1409, 1410, 1411, 1412, 1413, 1414, 1467, 1468, 1442, 1443, 1444, 1445, 1446, 1447, 1448, 1449, 1450, 1451, 1475, 1476, 1477, 1478, 1479] (by decide +kernel) (by decide +kernel)
set_option maxRecDepth 20000 in
theorem gL_law_X12_way : GoodIn wsL_law (wsV RL 123 RX12 yX12_way wsX12_way) := goodIn_app (goodIn_of _ (by decide +kernel)) ggL_law_X12_way
set_option maxRecDepth 20000 in
theorem ggL_law_X13_way : GoodIn wsL_law wsX13_way := goodIn_r _ [1045, 378, 379, 5, 380, 300, 301, 302, 235, 236, 237, 870, 871, 872, 873, 156, 874, 875, 876, 877, 157, 878, 879, 880, 881, 882, 883, 884, 440, 441, 442, 443, 444, 445, 446, 447, 142, 448, 449, 450, 218, 219, 220, 221, 389, 390, 391, 392, 393, 394, 395, 396, 1046, 1047, 1048, 1049, 1415, 1416, 1417, 1418, 1419, 1420, 1421, 1422, 1423, 1424, 1425, 1426, 1427, 1428, 1429, 1430, 1431, 1432, 1433, 1434, 1435, 1436, 1437, 1438, 1439, 1440, 1441] (by decide +kernel) (by decide +kernel)
set_option maxRecDepth 20000 in
theorem gL_law_X13_way : GoodIn wsL_law (wsV RL 126 RX13 yX13_way wsX13_way) := goodIn_app (goodIn_of _ (by decide +kernel)) ggL_law_X13_way
set_option maxRecDepth 20000 in
theorem ggL_law_X12_circles : GoodIn wsL_law wsX12_circles := goodIn_r _ [1053, 15, 774, 1054, 1055, 1056, 57, 1057, 1058, 1059, 1060, 1061, 1062, 1063, 1064, 1065, 1066, 795, 796, 797, 427, 420, 421, 422, 73, 1404, 1405, 1406, 1407, 1408, 1409, 1410, 1411, 1412, 1413, 1414, 1442, 1443, 1444, 1445, 1446, 1447, 1448, 1449, 1450, 1451, 1480, 1481] (by decide +kernel) (by decide +kernel)
set_option maxRecDepth 20000 in
theorem gL_law_X12_circles : GoodIn wsL_law (wsV RL 127 RX12 yX12_circles wsX12_circles) := goodIn_app (goodIn_of _ (by decide +kernel)) ggL_law_X12_circles
set_option maxRecDepth 20000 in
theorem ggL_law_X13_circles : GoodIn wsL_law wsX13_circles := goodIn_r _ [1070, 818, 819, 820, 5, 821, 451, 452, 453, 454, 142, 1415, 1416, 1417, 1418, 1419, 1420, 1421, 1422, 1423, 1424, 1425, 1426, 1427, 1428, 1429, 1430, 1431, 1432, 1433, 1434, 1435, 1436, 1437, 1438, 1439, 1440, 1441] (by decide +kernel) (by decide +kernel)
set_option maxRecDepth 20000 in
theorem gL_law_X13_circles : GoodIn wsL_law (wsV RL 130 RX13 yX13_circles wsX13_circles) := goodIn_app (goodIn_of _ (by decide +kernel)) ggL_law_X13_circles
set_option maxRecDepth 20000 in
theorem ggL_law_X12_wouldGrow : GoodIn wsL_law wsX12_wouldGrow := goodIn_r _ [1074, 16, 15, 242, 243, 244, 14, 245, 49, 246, 247, 248, 249, 50, 54, 58, 62, 185, 186, 187, 188, 250, 251, 252, 53, 253, 67, 254, 68, 69, 193, 194, 255, 256, 257, 57, 258, 73, 259, 74, 260, 261, 262, 61, 263, 78, 264, 79, 80, 204, 548, 549, 550, 551, 63, 552, 553, 554, 555, 556, 557, 558, 559, 560, 561, 562, 199, 82, 83, 84, 177, 178, 179, 180, 1404, 1405, 1406, 1407, 1408, 1409, 1410, 1411, 1412, 1413, 1414, 1442, 1443, 1444, 1445, 1446, 1447, 1448, 1449, 1450, 1451, 1475, 1476, 1477, 1478, 1479, 1480, 1481, 1482, 1483, 1484, 1485] (by decide +kernel) (by decide +kernel)
set_option maxRecDepth 20000 in
theorem gL_law_X12_wouldGrow : GoodIn wsL_law (wsV RL 131 RX12 yX12_wouldGrow wsX12_wouldGrow) := goodIn_app (goodIn_of _ (by decide +kernel)) ggL_law_X12_wouldGrow
set_option maxRecDepth 20000 in
theorem ggL_law_X13_wouldGrow : GoodIn wsL_law wsX13_wouldGrow := goodIn_r _ [1078, 142, 144, 235, 236, 5, 237, 297, 298, 299, 571, 572, 573, 574, 575, 576, 577, 578, 218, 219, 220, 221, 579, 580, 581, 582, 214, 215, 216, 217, 1415, 1416, 1417, 1418, 1419, 1420, 1421, 1422, 1423, 1424, 1425, 1426, 1427, 1428, 1429, 1430, 1431, 1432, 1433, 1434, 1435, 1436, 1437, 1438, 1439, 1440, 1441] (by decide +kernel) (by decide +kernel)
set_option maxRecDepth 20000 in
theorem gL_law_X13_wouldGrow : GoodIn wsL_law (wsV RL 134 RX13 yX13_wouldGrow wsX13_wouldGrow) := goodIn_app (goodIn_of _ (by decide +kernel)) ggL_law_X13_wouldGrow
set_option maxRecDepth 20000 in
theorem ggL_law_X12_kindest : GoodIn wsL_law wsX12_kindest := goodIn_r _ [1082, 38, 15, 774, 782, 783, 784, 57, 785, 427, 420, 421, 422, 73, 786, 787, 788, 789, 1083, 1084, 1085, 37, 1086, 116, 117, 1087, 1088, 1089, 1090, 1091, 1092, 1093, 1094, 1095, 1096, 1097, 1098, 1404, 1405, 1406, 1407, 1408, 1409, 1410, 1411, 1412, 1413, 1414, 1442, 1443, 1444, 1445, 1446, 1447, 1448, 1449, 1450, 1451, 1480, 1481, 1469, 1470] (by decide +kernel) (by decide +kernel)
set_option maxRecDepth 20000 in
theorem gL_law_X12_kindest : GoodIn wsL_law (wsV RL 135 RX12 yX12_kindest wsX12_kindest) := goodIn_app (goodIn_of _ (by decide +kernel)) ggL_law_X12_kindest
set_option maxRecDepth 20000 in
theorem ggL_law_X13_kindest : GoodIn wsL_law wsX13_kindest := goodIn_r _ [1102, 1103, 1104, 1105, 5, 1106, 806, 807, 808, 809, 451, 452, 453, 454, 142, 810, 811, 812, 813, 1415, 1416, 1417, 1418, 1419, 1420, 1421, 1422, 1423, 1424, 1425, 1426, 1427, 1428, 1429, 1430, 1431, 1432, 1433, 1434, 1435, 1436, 1437, 1438, 1439, 1440, 1441] (by decide +kernel) (by decide +kernel)
set_option maxRecDepth 20000 in
theorem gL_law_X13_kindest : GoodIn wsL_law (wsV RL 138 RX13 yX13_kindest wsX13_kindest) := goodIn_app (goodIn_of _ (by decide +kernel)) ggL_law_X13_kindest
set_option maxRecDepth 20000 in
theorem ggL_law_X12_worst : GoodIn wsL_law wsX12_worst := goodIn_r _ [1110, 38, 15, 771, 777, 778, 779, 780, 781, 411, 412, 14, 413, 409, 372, 286, 373, 414, 285, 287, 49, 50, 54, 362, 363, 364, 53, 365, 193, 67, 68, 1083, 1084, 1085, 37, 1086, 116, 117, 1087, 1088, 1089, 1090, 1091, 1092, 1093, 1094, 1095, 1096, 1097, 1098, 1404, 1405, 1406, 1407, 1408, 1409, 1410, 1411, 1412, 1413, 1414, 1442, 1443, 1444, 1445, 1446, 1447, 1448, 1449, 1450, 1451, 1475, 1476, 1477, 1478, 1479, 1469, 1470] (by decide +kernel) (by decide +kernel)
set_option maxRecDepth 20000 in
theorem gL_law_X12_worst : GoodIn wsL_law (wsV RL 139 RX12 yX12_worst wsX12_worst) := goodIn_app (goodIn_of _ (by decide +kernel)) ggL_law_X12_worst
set_option maxRecDepth 20000 in
theorem ggL_law_X13_worst : GoodIn wsL_law wsX13_worst := goodIn_r _ [1114, 1115, 1116, 1117, 5, 1118, 802, 803, 804, 805, 440, 441, 442, 443, 444, 445, 446, 447, 142, 448, 449, 450, 218, 219, 220, 221, 389, 390, 391, 392, 393, 394, 395, 396, 1415, 1416, 1417, 1418, 1419, 1420, 1421, 1422, 1423, 1424, 1425, 1426, 1427, 1428, 1429, 1430, 1431, 1432, 1433, 1434, 1435, 1436, 1437, 1438, 1439, 1440, 1441] (by decide +kernel) (by decide +kernel)
set_option maxRecDepth 20000 in
theorem gL_law_X13_worst : GoodIn wsL_law (wsV RL 142 RX13 yX13_worst wsX13_worst) := goodIn_app (goodIn_of _ (by decide +kernel)) ggL_law_X13_worst
set_option maxRecDepth 20000 in
theorem ggL_law_X12_write : GoodIn wsL_law wsX12_write := goodIn_r _ [1122, 42, 1123, 1124, 1125, 41, 1126, 1127, 1128, 1129, 1130, 123, 1131, 1132, 128, 1133, 1134, 1135, 1136, 1137, 1138, 129, 1139, 1140, 1141, 1142, 1143, 1144, 1145, 1146, 1147, 1148, 1149, 372, 286, 373, 1150, 1151, 1152, 1153, 1154, 1155, 83, 1156, 1157, 1158, 1159, 1160, 1161, 1162, 127, 1163, 285, 287, 1164, 247, 248, 249, 1165, 1166, 1167, 1168, 1169, 126, 1170, 1171, 636, 1172, 1173, 1174, 1175, 1176, 1177, 1178, 1179, 1180, 132, 1181, 1182, 1183, 1184, 1185, 1186, 1187, 1188, 1189, 1190, 1191, 1192, 1193, 1194, 1195, 1196, 1197, 1198, 130, 131, 133, 134, 135, 136, 137, 1199, 1200, 1201, 1202, 1203, 1204, 1205, 1206, 1207, 652, 653, 654, 1208, 1209, 617, 1210, 641, 1211, 1212, 644, 1213, 1214, 1215, 1216, 659, 660, 661, 1217, 1218, 1219, 649, 650, 651, 655, 639, 640, 642, 643, 645, 1220, 1221, 1222, 2, 1223, 15, 771, 773, 1224, 1225, 1226, 1227, 1228, 1229, 1230, 1231, 1232, 1233, 1234, 1235, 1236, 1237, 1238, 1239, 1240, 1241, 1242, 1243, 1244, 1245, 1246, 1247, 1248, 1249, 1250, 1251, 1252, 1253, 1254, 1255, 1256, 1257, 776, 489, 490, 61, 491, 204, 78, 777, 778, 779, 780, 781, 411, 412, 14, 413, 409, 414, 49, 50, 54, 362, 363, 364, 53, 365, 193, 67, 68, 1258, 1259, 1260, 1261, 1262, 1263, 1264, 1265, 1404, 1405, 1406, 1407, 1408, 1409, 1410, 1411, 1412, 1413, 1414, 1471, 1472, 1473, 1474, 1442, 1443, 1444, 1445, 1446, 1447, 1448, 1449, 1450, 1451, 1482, 1483, 1484, 1485, 1475, 1476, 1477, 1478, 1479] (by decide +kernel) (by decide +kernel)
set_option maxRecDepth 20000 in
theorem gL_law_X12_write : GoodIn wsL_law (wsV RL 143 RX12 yX12_write wsX12_write) := goodIn_app (goodIn_of _ (by decide +kernel)) ggL_law_X12_write
set_option maxRecDepth 20000 in
theorem ggL_law_X13_write : GoodIn wsL_law wsX13_write := goodIn_r _ [1269, 159, 235, 236, 5, 237, 1270, 1271, 1272, 1273, 158, 218, 219, 220, 221, 142, 1274, 1275, 1276, 1277, 504, 505, 506, 507, 508, 509, 510, 511, 802, 803, 804, 805, 440, 441, 442, 443, 444, 445, 446, 447, 448, 449, 450, 389, 390, 391, 392, 393, 394, 395, 396, 1415, 1416, 1417, 1418, 1419, 1420, 1421, 1422, 1423, 1424, 1425, 1426, 1427, 1428, 1429, 1430, 1431, 1432, 1433, 1434, 1435, 1436, 1437, 1438, 1439, 1440, 1441] (by decide +kernel) (by decide +kernel)
set_option maxRecDepth 20000 in
theorem gL_law_X13_write : GoodIn wsL_law (wsV RL 146 RX13 yX13_write wsX13_write) := goodIn_app (goodIn_of _ (by decide +kernel)) ggL_law_X13_write
set_option maxRecDepth 20000 in
theorem ggL_law_X12_writeLines : GoodIn wsL_law wsX12_writeLines := goodIn_r _ [1281, 42, 15, 775, 889, 890, 891, 892, 1123, 1124, 1125, 41, 1126, 1127, 1128, 1129, 1130, 123, 1131, 1132, 128, 1133, 1134, 1135, 1136, 1137, 1138, 129, 1139, 1140, 1141, 1142, 1143, 1144, 1145, 1146, 1147, 1148, 1149, 372, 286, 373, 1150, 1151, 1152, 1153, 1154, 1155, 83, 1156, 1157, 1158, 1159, 1160, 1161, 1162, 127, 1163, 285, 287, 1164, 247, 248, 249, 1165, 1166, 1167, 1168, 1169, 126, 1170, 1171, 636, 1172, 1173, 1174, 1175, 1176, 1177, 1178, 1179, 1180, 132, 1181, 1182, 1183, 1184, 1185, 1186, 1187, 1188, 1189, 1190, 1191, 1192, 1193, 1194, 1195, 1196, 1197, 1198, 130, 131, 133, 134, 135, 136, 137, 1199, 1200, 1201, 1202, 1203, 1204, 1205, 1206, 1207, 652, 653, 654, 1208, 1209, 617, 1210, 641, 1211, 1212, 644, 1213, 1214, 1215, 1216, 659, 660, 661, 1217, 1218, 1219, 649, 650, 651, 655, 639, 640, 642, 643, 645, 1224, 1225, 1226, 1227, 1228, 1229, 1230, 1231, 1232, 1233, 1234, 1235, 1236, 1237, 1238, 1239, 1240, 1241, 1242, 1243, 1244, 1245, 1246, 1247, 1248, 1249, 1250, 1251, 1252, 1253, 1254, 1255, 1256, 1257, 1258, 1259, 1260, 1261, 1262, 1263, 1264, 1265, 1404, 1405, 1406, 1407, 1408, 1409, 1410, 1411, 1412, 1413, 1414, 1442, 1443, 1444, 1445, 1446, 1447, 1448, 1449, 1450, 1451, 1475, 1476, 1477, 1478, 1479, 1471, 1472, 1473, 1474] (by decide +kernel) (by decide +kernel)
set_option maxRecDepth 20000 in
theorem gL_law_X12_writeLines : GoodIn wsL_law (wsV RL 147 RX12 yX12_writeLines wsX12_writeLines) := goodIn_app (goodIn_of _ (by decide +kernel)) ggL_law_X12_writeLines
set_option maxRecDepth 20000 in
theorem ggL_law_X13_writeLines : GoodIn wsL_law wsX13_writeLines := goodIn_r _ [1285, 159, 142, 1270, 1271, 1272, 5, 1273, 158, 393, 394, 395, 396, 1274, 1275, 1276, 1277, 1415, 1416, 1417, 1418, 1419, 1420, 1421, 1422, 1423, 1424, 1425, 1426, 1427, 1428, 1429, 1430, 1431, 1432, 1433, 1434, 1435, 1436, 1437, 1438, 1439, 1440, 1441] (by decide +kernel) (by decide +kernel)
set_option maxRecDepth 20000 in
theorem gL_law_X13_writeLines : GoodIn wsL_law (wsV RL 150 RX13 yX13_writeLines wsX13_writeLines) := goodIn_app (goodIn_of _ (by decide +kernel)) ggL_law_X13_writeLines
set_option maxRecDepth 20000 in
theorem ggL_law_X12_written : GoodIn wsL_law wsX12_written := goodIn_r _ [1289, 42, 1258, 1259, 1260, 41, 1261, 1262, 1263, 1129, 1264, 123, 1265, 1132, 1290, 1291, 1292, 1293, 1294, 1295, 1296, 1297, 129, 128, 1298, 285, 286, 287, 1299, 639, 617, 640, 641, 642, 643, 644, 645, 1300, 657, 132, 658, 659, 660, 661, 652, 653, 654, 1404, 1405, 1406, 1407, 1408, 1409, 1410, 1411, 1412, 1413, 1414, 1471, 1472, 1473, 1474] (by decide +kernel) (by decide +kernel)
set_option maxRecDepth 20000 in
theorem gL_law_X12_written : GoodIn wsL_law (wsV RL 151 RX12 yX12_written wsX12_written) := goodIn_app (goodIn_of _ (by decide +kernel)) ggL_law_X12_written
set_option maxRecDepth 20000 in
theorem ggL_law_X13_written : GoodIn wsL_law wsX13_written := goodIn_r _ [1304, 159, 158, 235, 236, 5, 237, 1415, 1416, 1417, 1418, 1419, 1420, 1421, 1422, 1423, 1424, 1425, 1426, 1427, 1428, 1429, 1430, 1431, 1432, 1433, 1434, 1435, 1436, 1437, 1438, 1439, 1440, 1441] (by decide +kernel) (by decide +kernel)
set_option maxRecDepth 20000 in
theorem gL_law_X13_written : GoodIn wsL_law (wsV RL 154 RX13 yX13_written wsX13_written) := goodIn_app (goodIn_of _ (by decide +kernel)) ggL_law_X13_written
set_option maxRecDepth 20000 in
theorem ggL_law_X12_isWell : GoodIn wsL_law wsX12_isWell := goodIn_r _ [1308, 15, 773, 1309, 898, 899, 2, 900, 901, 902, 779, 903, 781, 411, 412, 14, 413, 409, 372, 286, 373, 414, 285, 287, 49, 50, 54, 362, 363, 364, 53, 365, 193, 67, 68, 1310, 913, 914, 915, 916, 917, 918, 919, 920, 921, 922, 923, 924, 925, 926, 927, 928, 929, 930, 1311, 936, 937, 938, 939, 940, 941, 942, 943, 944, 945, 946, 947, 1312, 961, 962, 963, 16, 242, 243, 244, 245, 246, 247, 248, 249, 58, 62, 185, 186, 187, 188, 250, 251, 252, 253, 254, 69, 194, 255, 256, 257, 57, 258, 73, 259, 74, 260, 261, 262, 61, 263, 78, 264, 79, 80, 204, 964, 965, 966, 967, 968, 969, 1313, 975, 976, 977, 774, 978, 979, 980, 981, 982, 783, 784, 785, 427, 420, 421, 422, 1314, 992, 993, 994, 995, 996, 997, 998, 999, 787, 788, 789, 1315, 1316, 1317, 1318, 34, 850, 851, 852, 33, 853, 111, 854, 82, 83, 84, 855, 856, 857, 858, 859, 860, 861, 862, 863, 864, 865, 410, 1017, 1018, 1019, 1020, 112, 1021, 1022, 1023, 1024, 1319, 1320, 1321, 1322, 1323, 1324, 1325, 1326, 1404, 1405, 1406, 1407, 1408, 1409, 1410, 1411, 1412, 1413, 1414, 1442, 1443, 1444, 1445, 1446, 1447, 1448, 1449, 1450, 1451, 1475, 1476, 1477, 1478, 1479, 1480, 1481, 1482, 1483, 1484, 1485, 1467, 1468] (by decide +kernel) (by decide +kernel)
set_option maxRecDepth 20000 in
theorem gL_law_X12_isWell : GoodIn wsL_law (wsV RL 155 RX12 yX12_isWell wsX12_isWell) := goodIn_app (goodIn_of _ (by decide +kernel)) ggL_law_X12_isWell
set_option maxRecDepth 20000 in
theorem ggL_law_X13_isWell : GoodIn wsL_law wsX13_isWell := goodIn_r _ [1330] (by decide +kernel) (by decide +kernel)
set_option maxRecDepth 20000 in
theorem gL_law_X13_isWell : GoodIn wsL_law (wsV RL 158 RX13 yX13_isWell wsX13_isWell) := goodIn_app (goodIn_of _ (by decide +kernel)) ggL_law_X13_isWell
set_option maxRecDepth 20000 in
theorem ggL_law_X12_meanPlants : GoodIn wsL_law wsX12_meanPlants := goodIn_r _ [1334, 15, 1335, 177, 178, 179, 14, 180, 49, 1404, 1405, 1406, 1407, 1408, 1409, 1410, 1411, 1412, 1413, 1414, 1442, 1443, 1444, 1445, 1446, 1447, 1448, 1449, 1450, 1451] (by decide +kernel) (by decide +kernel)
set_option maxRecDepth 20000 in
theorem gL_law_X12_meanPlants : GoodIn wsL_law (wsV RL 159 RX12 yX12_meanPlants wsX12_meanPlants) := goodIn_app (goodIn_of _ (by decide +kernel)) ggL_law_X12_meanPlants
set_option maxRecDepth 20000 in
theorem ggL_law_X13_meanPlants : GoodIn wsL_law wsX13_meanPlants := goodIn_r _ [1339, 1340, 214, 215, 216, 5, 217, 218, 219, 220, 221, 142, 1415, 1416, 1417, 1418, 1419, 1420, 1421, 1422, 1423, 1424, 1425, 1426, 1427, 1428, 1429, 1430, 1431, 1432, 1433, 1434, 1435, 1436, 1437, 1438, 1439, 1440, 1441] (by decide +kernel) (by decide +kernel)
set_option maxRecDepth 20000 in
theorem gL_law_X13_meanPlants : GoodIn wsL_law (wsV RL 163 RX13 yX13_meanPlants wsX13_meanPlants) := goodIn_app (goodIn_of _ (by decide +kernel)) ggL_law_X13_meanPlants
set_option maxRecDepth 20000 in
theorem ggL_law_X12_homeShare : GoodIn wsL_law wsX12_homeShare := goodIn_r _ [1344, 15, 773, 845, 1345, 1346, 1347, 61, 1348, 204, 78, 79, 1404, 1405, 1406, 1407, 1408, 1409, 1410, 1411, 1412, 1413, 1414, 1442, 1443, 1444, 1445, 1446, 1447, 1448, 1449, 1450, 1451, 1482, 1483, 1484, 1485] (by decide +kernel) (by decide +kernel)
set_option maxRecDepth 20000 in
theorem gL_law_X12_homeShare : GoodIn wsL_law (wsV RL 164 RX12 yX12_homeShare wsX12_homeShare) := goodIn_app (goodIn_of _ (by decide +kernel)) ggL_law_X12_homeShare
set_option maxRecDepth 20000 in
theorem ggL_law_X13_homeShare : GoodIn wsL_law wsX13_homeShare := goodIn_r _ [1352, 142, 1353, 1354, 1355, 5, 1356, 508, 509, 510, 511, 1415, 1416, 1417, 1418, 1419, 1420, 1421, 1422, 1423, 1424, 1425, 1426, 1427, 1428, 1429, 1430, 1431, 1432, 1433, 1434, 1435, 1436, 1437, 1438, 1439, 1440, 1441] (by decide +kernel) (by decide +kernel)
set_option maxRecDepth 20000 in
theorem gL_law_X13_homeShare : GoodIn wsL_law (wsV RL 168 RX13 yX13_homeShare wsX13_homeShare) := goodIn_app (goodIn_of _ (by decide +kernel)) ggL_law_X13_homeShare
set_option maxRecDepth 20000 in
theorem ggL_law_X12_account : GoodIn wsL_law wsX12_account := goodIn_r _ [1360, 15, 775, 889, 773, 845, 1361, 774, 1362, 1363, 1364, 1365, 26, 1366, 22, 1367, 177, 178, 179, 14, 180, 49, 901, 902, 779, 903, 781, 411, 412, 413, 409, 372, 286, 373, 414, 285, 287, 50, 54, 362, 363, 364, 53, 365, 193, 67, 68, 1345, 1346, 1347, 61, 1348, 204, 78, 79, 978, 979, 980, 57, 981, 982, 783, 784, 785, 427, 420, 421, 422, 73, 1368, 1369, 1370, 1371, 80, 1404, 1405, 1406, 1407, 1408, 1409, 1410, 1411, 1412, 1413, 1414, 1442, 1443, 1444, 1445, 1446, 1447, 1448, 1449, 1450, 1451, 1475, 1476, 1477, 1478, 1479, 1482, 1483, 1484, 1485, 1455, 1456, 1457, 1458, 1459, 1460, 1461, 1462, 1452, 1453, 1454, 1480, 1481] (by decide +kernel) (by decide +kernel)
set_option maxRecDepth 20000 in
theorem gL_law_X12_account : GoodIn wsL_law (wsV RL 169 RX12 yX12_account wsX12_account) := goodIn_app (goodIn_of _ (by decide +kernel)) ggL_law_X12_account
set_option maxRecDepth 20000 in
theorem ggL_law_X13_account : GoodIn wsL_law wsX13_account := goodIn_r _ [1375, 142, 163, 147, 214, 215, 216, 5, 217, 218, 219, 220, 221, 908, 909, 910, 911, 802, 803, 804, 805, 440, 441, 442, 443, 444, 445, 446, 447, 448, 449, 450, 389, 390, 391, 392, 393, 394, 395, 396, 1353, 1354, 1355, 1356, 508, 509, 510, 511, 987, 988, 989, 990, 806, 807, 808, 809, 451, 452, 453, 454, 1415, 1416, 1417, 1418, 1419, 1420, 1421, 1422, 1423, 1424, 1425, 1426, 1427, 1428, 1429, 1430, 1431, 1432, 1433, 1434, 1435, 1436, 1437, 1438, 1439, 1440, 1441] (by decide +kernel) (by decide +kernel)
set_option maxRecDepth 20000 in
theorem gL_law_X13_account : GoodIn wsL_law (wsV RL 172 RX13 yX13_account wsX13_account) := goodIn_app (goodIn_of _ (by decide +kernel)) ggL_law_X13_account
set_option maxRecDepth 20000 in
theorem ggL_law_X12_undo : GoodIn wsL_law wsX12_undo := goodIn_r _ [1379, 22, 1367, 15, 1380, 1381, 1382, 21, 1383, 283, 209, 90, 288, 243, 244, 14, 245, 49, 246, 247, 248, 249, 50, 54, 58, 62, 185, 186, 187, 188, 250, 251, 252, 53, 253, 67, 254, 68, 69, 193, 194, 255, 256, 257, 57, 258, 73, 259, 74, 260, 261, 262, 61, 263, 78, 264, 79, 80, 204, 1404, 1405, 1406, 1407, 1408, 1409, 1410, 1411, 1412, 1413, 1414, 1452, 1453, 1454, 1442, 1443, 1444, 1445, 1446, 1447, 1448, 1449, 1450, 1451, 1475, 1476, 1477, 1478, 1479, 1480, 1481, 1482, 1483, 1484, 1485] (by decide +kernel) (by decide +kernel)
set_option maxRecDepth 20000 in
theorem gL_law_X12_undo : GoodIn wsL_law (wsV RL 173 RX12 yX12_undo wsX12_undo) := goodIn_app (goodIn_of _ (by decide +kernel)) ggL_law_X12_undo
set_option maxRecDepth 20000 in
theorem ggL_law_X13_undo : GoodIn wsL_law wsX13_undo := goodIn_r _ [1387, 147, 146, 142, 297, 298, 5, 299, 1415, 1416, 1417, 1418, 1419, 1420, 1421, 1422, 1423, 1424, 1425, 1426, 1427, 1428, 1429, 1430, 1431, 1432, 1433, 1434, 1435, 1436, 1437, 1438, 1439, 1440, 1441] (by decide +kernel) (by decide +kernel)
set_option maxRecDepth 20000 in
theorem gL_law_X13_undo : GoodIn wsL_law (wsV RL 176 RX13 yX13_undo wsX13_undo) := goodIn_app (goodIn_of _ (by decide +kernel)) ggL_law_X13_undo
set_option maxRecDepth 20000 in
theorem ggL_law_X12_save : GoodIn wsL_law wsX12_save := goodIn_r _ [1391, 17, 15, 18, 242, 243, 244, 14, 245, 49, 246, 247, 248, 249, 50, 54, 58, 62, 185, 186, 187, 188, 250, 251, 252, 53, 253, 67, 254, 68, 69, 193, 194, 255, 256, 257, 57, 258, 73, 259, 74, 260, 261, 262, 61, 263, 78, 264, 79, 80, 204, 177, 178, 179, 180, 1404, 1405, 1406, 1407, 1408, 1409, 1410, 1411, 1412, 1413, 1414, 1442, 1443, 1444, 1445, 1446, 1447, 1448, 1449, 1450, 1451, 1475, 1476, 1477, 1478, 1479, 1480, 1481, 1482, 1483, 1484, 1485] (by decide +kernel) (by decide +kernel)
set_option maxRecDepth 20000 in
theorem gL_law_X12_save : GoodIn wsL_law (wsV RL 177 RX12 yX12_save wsX12_save) := goodIn_app (goodIn_of _ (by decide +kernel)) ggL_law_X12_save
set_option maxRecDepth 20000 in
theorem ggL_law_X13_save : GoodIn wsL_law wsX13_save := goodIn_r _ [1395, 142, 145, 155, 297, 298, 5, 299, 214, 215, 216, 217, 218, 219, 220, 221, 1415, 1416, 1417, 1418, 1419, 1420, 1421, 1422, 1423, 1424, 1425, 1426, 1427, 1428, 1429, 1430, 1431, 1432, 1433, 1434, 1435, 1436, 1437, 1438, 1439, 1440, 1441] (by decide +kernel) (by decide +kernel)
set_option maxRecDepth 20000 in
theorem gL_law_X13_save : GoodIn wsL_law (wsV RL 180 RX13 yX13_save wsX13_save) := goodIn_app (goodIn_of _ (by decide +kernel)) ggL_law_X13_save
set_option maxRecDepth 20000 in
theorem ggL_law_X12_restore : GoodIn wsL_law wsX12_restore := goodIn_r _ [1399, 18, 15, 17, 22, 242, 243, 244, 14, 245, 49, 246, 247, 248, 249, 50, 54, 58, 62, 185, 186, 187, 188, 250, 251, 252, 53, 253, 67, 254, 68, 69, 193, 194, 255, 256, 257, 57, 258, 73, 259, 74, 260, 261, 262, 61, 263, 78, 264, 79, 80, 204, 205, 206, 207, 21, 208, 209, 177, 178, 179, 180, 1404, 1405, 1406, 1407, 1408, 1409, 1410, 1411, 1412, 1413, 1414, 1442, 1443, 1444, 1445, 1446, 1447, 1448, 1449, 1450, 1451, 1475, 1476, 1477, 1478, 1479, 1480, 1481, 1482, 1483, 1484, 1485, 1452, 1453, 1454] (by decide +kernel) (by decide +kernel)
set_option maxRecDepth 20000 in
theorem gL_law_X12_restore : GoodIn wsL_law (wsV RL 181 RX12 yX12_restore wsX12_restore) := goodIn_app (goodIn_of _ (by decide +kernel)) ggL_law_X12_restore
set_option maxRecDepth 20000 in
theorem ggL_law_X13_restore : GoodIn wsL_law wsX13_restore := goodIn_r _ [1403, 155, 145, 142, 147, 297, 298, 5, 299, 214, 215, 216, 217, 218, 219, 220, 221, 1415, 1416, 1417, 1418, 1419, 1420, 1421, 1422, 1423, 1424, 1425, 1426, 1427, 1428, 1429, 1430, 1431, 1432, 1433, 1434, 1435, 1436, 1437, 1438, 1439, 1440, 1441] (by decide +kernel) (by decide +kernel)
set_option maxRecDepth 20000 in
theorem gL_law_X13_restore : GoodIn wsL_law (wsV RL 184 RX13 yX13_restore wsX13_restore) := goodIn_app (goodIn_of _ (by decide +kernel)) ggL_law_X13_restore
theorem dL_law_0 : decode cL_law 0 = .ok (.new 7, 3) := by decide +kernel
theorem dL_law_3 : decode cL_law 3 = .ok (.dup, 1) := by decide +kernel
theorem dL_law_4 : decode cL_law 4 = .ok (.invokespecial 9, 3) := by decide +kernel
theorem dL_law_7 : decode cL_law 7 = .ok (.astore_n 1, 1) := by decide +kernel
theorem dL_law_8 : decode cL_law 8 = .ok (.new 10, 3) := by decide +kernel
theorem dL_law_11 : decode cL_law 11 = .ok (.dup, 1) := by decide +kernel
theorem dL_law_12 : decode cL_law 12 = .ok (.invokespecial 12, 3) := by decide +kernel
theorem dL_law_15 : decode cL_law 15 = .ok (.astore_n 2, 1) := by decide +kernel
theorem dL_law_16 : decode cL_law 16 = .ok (.iconst 0, 1) := by decide +kernel
theorem dL_law_17 : decode cL_law 17 = .ok (.istore_n 3, 1) := by decide +kernel
theorem dL_law_18 : decode cL_law 18 = .ok (.iload_n 3, 1) := by decide +kernel
theorem dL_law_19 : decode cL_law 19 = .ok (.aload_n 0, 1) := by decide +kernel
theorem dL_law_20 : decode cL_law 20 = .ok (.arraylength, 1) := by decide +kernel
theorem dL_law_21 : decode cL_law 21 = .ok (.iconst 4, 1) := by decide +kernel
theorem dL_law_22 : decode cL_law 22 = .ok (.isub, 1) := by decide +kernel
theorem dL_law_23 : decode cL_law 23 = .ok (.if_icmp .gt 1214, 3) := by decide +kernel
theorem dL_law_26 : decode cL_law 26 = .ok (.aload_n 0, 1) := by decide +kernel
theorem dL_law_27 : decode cL_law 27 = .ok (.iload_n 3, 1) := by decide +kernel
theorem dL_law_28 : decode cL_law 28 = .ok (.iaload, 1) := by decide +kernel
theorem dL_law_29 : decode cL_law 29 = .ok (.bipush 63, 2) := by decide +kernel
theorem dL_law_31 : decode cL_law 31 = .ok (.iand, 1) := by decide +kernel
theorem dL_law_32 : decode cL_law 32 = .ok (.tableswitch 1199 0 40 #[180, 193, 218, 251, 284, 327, 360, 403, 426, 459, 472, 485, 498, 547, 580, 613, 646, 679, 712, 725, 738, 751, 764, 777, 790, 823, 856, 899, 912, 935, 958, 981, 1004, 1017, 1040, 1053, 1094, 1137, 1160, 1173, 1186], 180) := by decide +kernel
theorem dL_law_212 : decode cL_law 212 = .ok (.aload_n 1, 1) := by decide +kernel
theorem dL_law_213 : decode cL_law 213 = .ok (.invokevirtual 13, 3) := by decide +kernel
theorem dL_law_216 : decode cL_law 216 = .ok (.aload_n 2, 1) := by decide +kernel
theorem dL_law_217 : decode cL_law 217 = .ok (.invokevirtual 17, 3) := by decide +kernel
theorem dL_law_220 : decode cL_law 220 = .ok (.if_icmp .eq 1011, 3) := by decide +kernel
theorem dL_law_223 : decode cL_law 223 = .ok (.iconst 0, 1) := by decide +kernel
theorem dL_law_224 : decode cL_law 224 = .ok (.ireturn, 1) := by decide +kernel
theorem dL_law_225 : decode cL_law 225 = .ok (.aload_n 1, 1) := by decide +kernel
theorem dL_law_226 : decode cL_law 226 = .ok (.aload_n 0, 1) := by decide +kernel
theorem dL_law_227 : decode cL_law 227 = .ok (.iload_n 3, 1) := by decide +kernel
theorem dL_law_228 : decode cL_law 228 = .ok (.iconst 1, 1) := by decide +kernel
theorem dL_law_229 : decode cL_law 229 = .ok (.iadd, 1) := by decide +kernel
theorem dL_law_230 : decode cL_law 230 = .ok (.iaload, 1) := by decide +kernel
theorem dL_law_231 : decode cL_law 231 = .ok (.i2c, 1) := by decide +kernel
theorem dL_law_232 : decode cL_law 232 = .ok (.invokevirtual 18, 3) := by decide +kernel
theorem dL_law_235 : decode cL_law 235 = .ok (.aload_n 2, 1) := by decide +kernel
theorem dL_law_236 : decode cL_law 236 = .ok (.aload_n 0, 1) := by decide +kernel
theorem dL_law_237 : decode cL_law 237 = .ok (.iload_n 3, 1) := by decide +kernel
theorem dL_law_238 : decode cL_law 238 = .ok (.iconst 1, 1) := by decide +kernel
theorem dL_law_239 : decode cL_law 239 = .ok (.iadd, 1) := by decide +kernel
theorem dL_law_240 : decode cL_law 240 = .ok (.iaload, 1) := by decide +kernel
theorem dL_law_241 : decode cL_law 241 = .ok (.i2c, 1) := by decide +kernel
theorem dL_law_242 : decode cL_law 242 = .ok (.invokevirtual 22, 3) := by decide +kernel
theorem dL_law_245 : decode cL_law 245 = .ok (.if_icmp .eq 986, 3) := by decide +kernel
theorem dL_law_248 : decode cL_law 248 = .ok (.iconst 0, 1) := by decide +kernel
theorem dL_law_249 : decode cL_law 249 = .ok (.ireturn, 1) := by decide +kernel
theorem dL_law_250 : decode cL_law 250 = .ok (.aload_n 1, 1) := by decide +kernel
theorem dL_law_251 : decode cL_law 251 = .ok (.aload_n 0, 1) := by decide +kernel
theorem dL_law_252 : decode cL_law 252 = .ok (.iload_n 3, 1) := by decide +kernel
theorem dL_law_253 : decode cL_law 253 = .ok (.iconst 1, 1) := by decide +kernel
theorem dL_law_254 : decode cL_law 254 = .ok (.iadd, 1) := by decide +kernel
theorem dL_law_255 : decode cL_law 255 = .ok (.iaload, 1) := by decide +kernel
theorem dL_law_256 : decode cL_law 256 = .ok (.aload_n 0, 1) := by decide +kernel
theorem dL_law_257 : decode cL_law 257 = .ok (.iload_n 3, 1) := by decide +kernel
theorem dL_law_258 : decode cL_law 258 = .ok (.iconst 2, 1) := by decide +kernel
theorem dL_law_259 : decode cL_law 259 = .ok (.iadd, 1) := by decide +kernel
theorem dL_law_260 : decode cL_law 260 = .ok (.iaload, 1) := by decide +kernel
theorem dL_law_261 : decode cL_law 261 = .ok (.invokevirtual 23, 3) := by decide +kernel
theorem dL_law_264 : decode cL_law 264 = .ok (.aload_n 2, 1) := by decide +kernel
theorem dL_law_265 : decode cL_law 265 = .ok (.aload_n 0, 1) := by decide +kernel
theorem dL_law_266 : decode cL_law 266 = .ok (.iload_n 3, 1) := by decide +kernel
theorem dL_law_267 : decode cL_law 267 = .ok (.iconst 1, 1) := by decide +kernel
theorem dL_law_268 : decode cL_law 268 = .ok (.iadd, 1) := by decide +kernel
theorem dL_law_269 : decode cL_law 269 = .ok (.iaload, 1) := by decide +kernel
theorem dL_law_270 : decode cL_law 270 = .ok (.aload_n 0, 1) := by decide +kernel
theorem dL_law_271 : decode cL_law 271 = .ok (.iload_n 3, 1) := by decide +kernel
theorem dL_law_272 : decode cL_law 272 = .ok (.iconst 2, 1) := by decide +kernel
theorem dL_law_273 : decode cL_law 273 = .ok (.iadd, 1) := by decide +kernel
theorem dL_law_274 : decode cL_law 274 = .ok (.iaload, 1) := by decide +kernel
theorem dL_law_275 : decode cL_law 275 = .ok (.invokevirtual 27, 3) := by decide +kernel
theorem dL_law_278 : decode cL_law 278 = .ok (.if_icmp .eq 953, 3) := by decide +kernel
theorem dL_law_281 : decode cL_law 281 = .ok (.iconst 0, 1) := by decide +kernel
theorem dL_law_282 : decode cL_law 282 = .ok (.ireturn, 1) := by decide +kernel
theorem dL_law_283 : decode cL_law 283 = .ok (.aload_n 1, 1) := by decide +kernel
theorem dL_law_284 : decode cL_law 284 = .ok (.aload_n 0, 1) := by decide +kernel
theorem dL_law_285 : decode cL_law 285 = .ok (.iload_n 3, 1) := by decide +kernel
theorem dL_law_286 : decode cL_law 286 = .ok (.iconst 1, 1) := by decide +kernel
theorem dL_law_287 : decode cL_law 287 = .ok (.iadd, 1) := by decide +kernel
theorem dL_law_288 : decode cL_law 288 = .ok (.iaload, 1) := by decide +kernel
theorem dL_law_289 : decode cL_law 289 = .ok (.aload_n 0, 1) := by decide +kernel
theorem dL_law_290 : decode cL_law 290 = .ok (.iload_n 3, 1) := by decide +kernel
theorem dL_law_291 : decode cL_law 291 = .ok (.iconst 2, 1) := by decide +kernel
theorem dL_law_292 : decode cL_law 292 = .ok (.iadd, 1) := by decide +kernel
theorem dL_law_293 : decode cL_law 293 = .ok (.iaload, 1) := by decide +kernel
theorem dL_law_294 : decode cL_law 294 = .ok (.invokevirtual 28, 3) := by decide +kernel
theorem dL_law_297 : decode cL_law 297 = .ok (.aload_n 2, 1) := by decide +kernel
theorem dL_law_298 : decode cL_law 298 = .ok (.aload_n 0, 1) := by decide +kernel
theorem dL_law_299 : decode cL_law 299 = .ok (.iload_n 3, 1) := by decide +kernel
theorem dL_law_300 : decode cL_law 300 = .ok (.iconst 1, 1) := by decide +kernel
theorem dL_law_301 : decode cL_law 301 = .ok (.iadd, 1) := by decide +kernel
theorem dL_law_302 : decode cL_law 302 = .ok (.iaload, 1) := by decide +kernel
theorem dL_law_303 : decode cL_law 303 = .ok (.aload_n 0, 1) := by decide +kernel
theorem dL_law_304 : decode cL_law 304 = .ok (.iload_n 3, 1) := by decide +kernel
theorem dL_law_305 : decode cL_law 305 = .ok (.iconst 2, 1) := by decide +kernel
theorem dL_law_306 : decode cL_law 306 = .ok (.iadd, 1) := by decide +kernel
theorem dL_law_307 : decode cL_law 307 = .ok (.iaload, 1) := by decide +kernel
theorem dL_law_308 : decode cL_law 308 = .ok (.invokevirtual 31, 3) := by decide +kernel
theorem dL_law_311 : decode cL_law 311 = .ok (.if_icmp .eq 920, 3) := by decide +kernel
theorem dL_law_314 : decode cL_law 314 = .ok (.iconst 0, 1) := by decide +kernel
theorem dL_law_315 : decode cL_law 315 = .ok (.ireturn, 1) := by decide +kernel
theorem dL_law_316 : decode cL_law 316 = .ok (.aload_n 1, 1) := by decide +kernel
theorem dL_law_317 : decode cL_law 317 = .ok (.aload_n 0, 1) := by decide +kernel
theorem dL_law_318 : decode cL_law 318 = .ok (.iload_n 3, 1) := by decide +kernel
theorem dL_law_319 : decode cL_law 319 = .ok (.iconst 1, 1) := by decide +kernel
theorem dL_law_320 : decode cL_law 320 = .ok (.iadd, 1) := by decide +kernel
theorem dL_law_321 : decode cL_law 321 = .ok (.iaload, 1) := by decide +kernel
theorem dL_law_322 : decode cL_law 322 = .ok (.aload_n 0, 1) := by decide +kernel
theorem dL_law_323 : decode cL_law 323 = .ok (.iload_n 3, 1) := by decide +kernel
theorem dL_law_324 : decode cL_law 324 = .ok (.iconst 2, 1) := by decide +kernel
theorem dL_law_325 : decode cL_law 325 = .ok (.iadd, 1) := by decide +kernel
theorem dL_law_326 : decode cL_law 326 = .ok (.iaload, 1) := by decide +kernel
theorem dL_law_327 : decode cL_law 327 = .ok (.aload_n 0, 1) := by decide +kernel
theorem dL_law_328 : decode cL_law 328 = .ok (.iload_n 3, 1) := by decide +kernel
theorem dL_law_329 : decode cL_law 329 = .ok (.iconst 3, 1) := by decide +kernel
theorem dL_law_330 : decode cL_law 330 = .ok (.iadd, 1) := by decide +kernel
theorem dL_law_331 : decode cL_law 331 = .ok (.iaload, 1) := by decide +kernel
theorem dL_law_332 : decode cL_law 332 = .ok (.invokevirtual 32, 3) := by decide +kernel
theorem dL_law_335 : decode cL_law 335 = .ok (.aload_n 2, 1) := by decide +kernel
theorem dL_law_336 : decode cL_law 336 = .ok (.aload_n 0, 1) := by decide +kernel
theorem dL_law_337 : decode cL_law 337 = .ok (.iload_n 3, 1) := by decide +kernel
theorem dL_law_338 : decode cL_law 338 = .ok (.iconst 1, 1) := by decide +kernel
theorem dL_law_339 : decode cL_law 339 = .ok (.iadd, 1) := by decide +kernel
theorem dL_law_340 : decode cL_law 340 = .ok (.iaload, 1) := by decide +kernel
theorem dL_law_341 : decode cL_law 341 = .ok (.aload_n 0, 1) := by decide +kernel
theorem dL_law_342 : decode cL_law 342 = .ok (.iload_n 3, 1) := by decide +kernel
theorem dL_law_343 : decode cL_law 343 = .ok (.iconst 2, 1) := by decide +kernel
theorem dL_law_344 : decode cL_law 344 = .ok (.iadd, 1) := by decide +kernel
theorem dL_law_345 : decode cL_law 345 = .ok (.iaload, 1) := by decide +kernel
theorem dL_law_346 : decode cL_law 346 = .ok (.aload_n 0, 1) := by decide +kernel
theorem dL_law_347 : decode cL_law 347 = .ok (.iload_n 3, 1) := by decide +kernel
theorem dL_law_348 : decode cL_law 348 = .ok (.iconst 3, 1) := by decide +kernel
theorem dL_law_349 : decode cL_law 349 = .ok (.iadd, 1) := by decide +kernel
theorem dL_law_350 : decode cL_law 350 = .ok (.iaload, 1) := by decide +kernel
theorem dL_law_351 : decode cL_law 351 = .ok (.invokevirtual 36, 3) := by decide +kernel
theorem dL_law_354 : decode cL_law 354 = .ok (.if_icmp .eq 877, 3) := by decide +kernel
theorem dL_law_357 : decode cL_law 357 = .ok (.iconst 0, 1) := by decide +kernel
theorem dL_law_358 : decode cL_law 358 = .ok (.ireturn, 1) := by decide +kernel
theorem dL_law_359 : decode cL_law 359 = .ok (.aload_n 1, 1) := by decide +kernel
theorem dL_law_360 : decode cL_law 360 = .ok (.aload_n 0, 1) := by decide +kernel
theorem dL_law_361 : decode cL_law 361 = .ok (.iload_n 3, 1) := by decide +kernel
theorem dL_law_362 : decode cL_law 362 = .ok (.iconst 1, 1) := by decide +kernel
theorem dL_law_363 : decode cL_law 363 = .ok (.iadd, 1) := by decide +kernel
theorem dL_law_364 : decode cL_law 364 = .ok (.iaload, 1) := by decide +kernel
theorem dL_law_365 : decode cL_law 365 = .ok (.aload_n 0, 1) := by decide +kernel
theorem dL_law_366 : decode cL_law 366 = .ok (.iload_n 3, 1) := by decide +kernel
theorem dL_law_367 : decode cL_law 367 = .ok (.iconst 2, 1) := by decide +kernel
theorem dL_law_368 : decode cL_law 368 = .ok (.iadd, 1) := by decide +kernel
theorem dL_law_369 : decode cL_law 369 = .ok (.iaload, 1) := by decide +kernel
theorem dL_law_370 : decode cL_law 370 = .ok (.invokevirtual 37, 3) := by decide +kernel
theorem dL_law_373 : decode cL_law 373 = .ok (.aload_n 2, 1) := by decide +kernel
theorem dL_law_374 : decode cL_law 374 = .ok (.aload_n 0, 1) := by decide +kernel
theorem dL_law_375 : decode cL_law 375 = .ok (.iload_n 3, 1) := by decide +kernel
theorem dL_law_376 : decode cL_law 376 = .ok (.iconst 1, 1) := by decide +kernel
theorem dL_law_377 : decode cL_law 377 = .ok (.iadd, 1) := by decide +kernel
theorem dL_law_378 : decode cL_law 378 = .ok (.iaload, 1) := by decide +kernel
theorem dL_law_379 : decode cL_law 379 = .ok (.aload_n 0, 1) := by decide +kernel
theorem dL_law_380 : decode cL_law 380 = .ok (.iload_n 3, 1) := by decide +kernel
theorem dL_law_381 : decode cL_law 381 = .ok (.iconst 2, 1) := by decide +kernel
theorem dL_law_382 : decode cL_law 382 = .ok (.iadd, 1) := by decide +kernel
theorem dL_law_383 : decode cL_law 383 = .ok (.iaload, 1) := by decide +kernel
theorem dL_law_384 : decode cL_law 384 = .ok (.invokevirtual 40, 3) := by decide +kernel
theorem dL_law_387 : decode cL_law 387 = .ok (.if_icmp .eq 844, 3) := by decide +kernel
theorem dL_law_390 : decode cL_law 390 = .ok (.iconst 0, 1) := by decide +kernel
theorem dL_law_391 : decode cL_law 391 = .ok (.ireturn, 1) := by decide +kernel
theorem dL_law_392 : decode cL_law 392 = .ok (.aload_n 1, 1) := by decide +kernel
theorem dL_law_393 : decode cL_law 393 = .ok (.aload_n 0, 1) := by decide +kernel
theorem dL_law_394 : decode cL_law 394 = .ok (.iload_n 3, 1) := by decide +kernel
theorem dL_law_395 : decode cL_law 395 = .ok (.iconst 1, 1) := by decide +kernel
theorem dL_law_396 : decode cL_law 396 = .ok (.iadd, 1) := by decide +kernel
theorem dL_law_397 : decode cL_law 397 = .ok (.iaload, 1) := by decide +kernel
theorem dL_law_398 : decode cL_law 398 = .ok (.aload_n 0, 1) := by decide +kernel
theorem dL_law_399 : decode cL_law 399 = .ok (.iload_n 3, 1) := by decide +kernel
theorem dL_law_400 : decode cL_law 400 = .ok (.iconst 2, 1) := by decide +kernel
theorem dL_law_401 : decode cL_law 401 = .ok (.iadd, 1) := by decide +kernel
theorem dL_law_402 : decode cL_law 402 = .ok (.iaload, 1) := by decide +kernel
theorem dL_law_403 : decode cL_law 403 = .ok (.aload_n 0, 1) := by decide +kernel
theorem dL_law_404 : decode cL_law 404 = .ok (.iload_n 3, 1) := by decide +kernel
theorem dL_law_405 : decode cL_law 405 = .ok (.iconst 3, 1) := by decide +kernel
theorem dL_law_406 : decode cL_law 406 = .ok (.iadd, 1) := by decide +kernel
theorem dL_law_407 : decode cL_law 407 = .ok (.iaload, 1) := by decide +kernel
theorem dL_law_408 : decode cL_law 408 = .ok (.invokevirtual 41, 3) := by decide +kernel
theorem dL_law_411 : decode cL_law 411 = .ok (.aload_n 2, 1) := by decide +kernel
theorem dL_law_412 : decode cL_law 412 = .ok (.aload_n 0, 1) := by decide +kernel
theorem dL_law_413 : decode cL_law 413 = .ok (.iload_n 3, 1) := by decide +kernel
theorem dL_law_414 : decode cL_law 414 = .ok (.iconst 1, 1) := by decide +kernel
theorem dL_law_415 : decode cL_law 415 = .ok (.iadd, 1) := by decide +kernel
theorem dL_law_416 : decode cL_law 416 = .ok (.iaload, 1) := by decide +kernel
theorem dL_law_417 : decode cL_law 417 = .ok (.aload_n 0, 1) := by decide +kernel
theorem dL_law_418 : decode cL_law 418 = .ok (.iload_n 3, 1) := by decide +kernel
theorem dL_law_419 : decode cL_law 419 = .ok (.iconst 2, 1) := by decide +kernel
theorem dL_law_420 : decode cL_law 420 = .ok (.iadd, 1) := by decide +kernel
theorem dL_law_421 : decode cL_law 421 = .ok (.iaload, 1) := by decide +kernel
theorem dL_law_422 : decode cL_law 422 = .ok (.aload_n 0, 1) := by decide +kernel
theorem dL_law_423 : decode cL_law 423 = .ok (.iload_n 3, 1) := by decide +kernel
theorem dL_law_424 : decode cL_law 424 = .ok (.iconst 3, 1) := by decide +kernel
theorem dL_law_425 : decode cL_law 425 = .ok (.iadd, 1) := by decide +kernel
theorem dL_law_426 : decode cL_law 426 = .ok (.iaload, 1) := by decide +kernel
theorem dL_law_427 : decode cL_law 427 = .ok (.invokevirtual 44, 3) := by decide +kernel
theorem dL_law_430 : decode cL_law 430 = .ok (.if_icmp .eq 801, 3) := by decide +kernel
theorem dL_law_433 : decode cL_law 433 = .ok (.iconst 0, 1) := by decide +kernel
theorem dL_law_434 : decode cL_law 434 = .ok (.ireturn, 1) := by decide +kernel
theorem dL_law_435 : decode cL_law 435 = .ok (.aload_n 1, 1) := by decide +kernel
theorem dL_law_436 : decode cL_law 436 = .ok (.aload_n 0, 1) := by decide +kernel
theorem dL_law_437 : decode cL_law 437 = .ok (.iload_n 3, 1) := by decide +kernel
theorem dL_law_438 : decode cL_law 438 = .ok (.iconst 1, 1) := by decide +kernel
theorem dL_law_439 : decode cL_law 439 = .ok (.iadd, 1) := by decide +kernel
theorem dL_law_440 : decode cL_law 440 = .ok (.iaload, 1) := by decide +kernel
theorem dL_law_441 : decode cL_law 441 = .ok (.invokevirtual 45, 3) := by decide +kernel
theorem dL_law_444 : decode cL_law 444 = .ok (.aload_n 2, 1) := by decide +kernel
theorem dL_law_445 : decode cL_law 445 = .ok (.aload_n 0, 1) := by decide +kernel
theorem dL_law_446 : decode cL_law 446 = .ok (.iload_n 3, 1) := by decide +kernel
theorem dL_law_447 : decode cL_law 447 = .ok (.iconst 1, 1) := by decide +kernel
theorem dL_law_448 : decode cL_law 448 = .ok (.iadd, 1) := by decide +kernel
theorem dL_law_449 : decode cL_law 449 = .ok (.iaload, 1) := by decide +kernel
theorem dL_law_450 : decode cL_law 450 = .ok (.invokevirtual 49, 3) := by decide +kernel
theorem dL_law_453 : decode cL_law 453 = .ok (.if_icmp .eq 778, 3) := by decide +kernel
theorem dL_law_456 : decode cL_law 456 = .ok (.iconst 0, 1) := by decide +kernel
theorem dL_law_457 : decode cL_law 457 = .ok (.ireturn, 1) := by decide +kernel
theorem dL_law_458 : decode cL_law 458 = .ok (.aload_n 1, 1) := by decide +kernel
theorem dL_law_459 : decode cL_law 459 = .ok (.aload_n 0, 1) := by decide +kernel
theorem dL_law_460 : decode cL_law 460 = .ok (.iload_n 3, 1) := by decide +kernel
theorem dL_law_461 : decode cL_law 461 = .ok (.iconst 1, 1) := by decide +kernel
theorem dL_law_462 : decode cL_law 462 = .ok (.iadd, 1) := by decide +kernel
theorem dL_law_463 : decode cL_law 463 = .ok (.iaload, 1) := by decide +kernel
theorem dL_law_464 : decode cL_law 464 = .ok (.aload_n 0, 1) := by decide +kernel
theorem dL_law_465 : decode cL_law 465 = .ok (.iload_n 3, 1) := by decide +kernel
theorem dL_law_466 : decode cL_law 466 = .ok (.iconst 2, 1) := by decide +kernel
theorem dL_law_467 : decode cL_law 467 = .ok (.iadd, 1) := by decide +kernel
theorem dL_law_468 : decode cL_law 468 = .ok (.iaload, 1) := by decide +kernel
theorem dL_law_469 : decode cL_law 469 = .ok (.invokevirtual 50, 3) := by decide +kernel
theorem dL_law_472 : decode cL_law 472 = .ok (.aload_n 2, 1) := by decide +kernel
theorem dL_law_473 : decode cL_law 473 = .ok (.aload_n 0, 1) := by decide +kernel
theorem dL_law_474 : decode cL_law 474 = .ok (.iload_n 3, 1) := by decide +kernel
theorem dL_law_475 : decode cL_law 475 = .ok (.iconst 1, 1) := by decide +kernel
theorem dL_law_476 : decode cL_law 476 = .ok (.iadd, 1) := by decide +kernel
theorem dL_law_477 : decode cL_law 477 = .ok (.iaload, 1) := by decide +kernel
theorem dL_law_478 : decode cL_law 478 = .ok (.aload_n 0, 1) := by decide +kernel
theorem dL_law_479 : decode cL_law 479 = .ok (.iload_n 3, 1) := by decide +kernel
theorem dL_law_480 : decode cL_law 480 = .ok (.iconst 2, 1) := by decide +kernel
theorem dL_law_481 : decode cL_law 481 = .ok (.iadd, 1) := by decide +kernel
theorem dL_law_482 : decode cL_law 482 = .ok (.iaload, 1) := by decide +kernel
theorem dL_law_483 : decode cL_law 483 = .ok (.invokevirtual 53, 3) := by decide +kernel
theorem dL_law_486 : decode cL_law 486 = .ok (.if_icmp .eq 745, 3) := by decide +kernel
theorem dL_law_489 : decode cL_law 489 = .ok (.iconst 0, 1) := by decide +kernel
theorem dL_law_490 : decode cL_law 490 = .ok (.ireturn, 1) := by decide +kernel
theorem dL_law_491 : decode cL_law 491 = .ok (.aload_n 1, 1) := by decide +kernel
theorem dL_law_492 : decode cL_law 492 = .ok (.invokevirtual 54, 3) := by decide +kernel
theorem dL_law_495 : decode cL_law 495 = .ok (.aload_n 2, 1) := by decide +kernel
theorem dL_law_496 : decode cL_law 496 = .ok (.invokevirtual 57, 3) := by decide +kernel
theorem dL_law_499 : decode cL_law 499 = .ok (.if_icmp .eq 732, 3) := by decide +kernel
theorem dL_law_502 : decode cL_law 502 = .ok (.iconst 0, 1) := by decide +kernel
theorem dL_law_503 : decode cL_law 503 = .ok (.ireturn, 1) := by decide +kernel
theorem dL_law_504 : decode cL_law 504 = .ok (.aload_n 1, 1) := by decide +kernel
theorem dL_law_505 : decode cL_law 505 = .ok (.invokevirtual 58, 3) := by decide +kernel
theorem dL_law_508 : decode cL_law 508 = .ok (.aload_n 2, 1) := by decide +kernel
theorem dL_law_509 : decode cL_law 509 = .ok (.invokevirtual 61, 3) := by decide +kernel
theorem dL_law_512 : decode cL_law 512 = .ok (.if_icmp .eq 719, 3) := by decide +kernel
theorem dL_law_515 : decode cL_law 515 = .ok (.iconst 0, 1) := by decide +kernel
theorem dL_law_516 : decode cL_law 516 = .ok (.ireturn, 1) := by decide +kernel
theorem dL_law_517 : decode cL_law 517 = .ok (.aload_n 1, 1) := by decide +kernel
theorem dL_law_518 : decode cL_law 518 = .ok (.invokevirtual 62, 3) := by decide +kernel
theorem dL_law_521 : decode cL_law 521 = .ok (.aload_n 2, 1) := by decide +kernel
theorem dL_law_522 : decode cL_law 522 = .ok (.invokevirtual 65, 3) := by decide +kernel
theorem dL_law_525 : decode cL_law 525 = .ok (.if_icmp .eq 706, 3) := by decide +kernel
theorem dL_law_528 : decode cL_law 528 = .ok (.iconst 0, 1) := by decide +kernel
theorem dL_law_529 : decode cL_law 529 = .ok (.ireturn, 1) := by decide +kernel
theorem dL_law_530 : decode cL_law 530 = .ok (.aload_n 1, 1) := by decide +kernel
theorem dL_law_531 : decode cL_law 531 = .ok (.aload_n 0, 1) := by decide +kernel
theorem dL_law_532 : decode cL_law 532 = .ok (.iload_n 3, 1) := by decide +kernel
theorem dL_law_533 : decode cL_law 533 = .ok (.iconst 1, 1) := by decide +kernel
theorem dL_law_534 : decode cL_law 534 = .ok (.iadd, 1) := by decide +kernel
theorem dL_law_535 : decode cL_law 535 = .ok (.iaload, 1) := by decide +kernel
theorem dL_law_536 : decode cL_law 536 = .ok (.aload_n 0, 1) := by decide +kernel
theorem dL_law_537 : decode cL_law 537 = .ok (.iload_n 3, 1) := by decide +kernel
theorem dL_law_538 : decode cL_law 538 = .ok (.iconst 2, 1) := by decide +kernel
theorem dL_law_539 : decode cL_law 539 = .ok (.iadd, 1) := by decide +kernel
theorem dL_law_540 : decode cL_law 540 = .ok (.iaload, 1) := by decide +kernel
theorem dL_law_541 : decode cL_law 541 = .ok (.ifCond .eq 7, 3) := by decide +kernel
theorem dL_law_544 : decode cL_law 544 = .ok (.iconst 1, 1) := by decide +kernel
theorem dL_law_545 : decode cL_law 545 = .ok (.goto 4, 3) := by decide +kernel
theorem dL_law_548 : decode cL_law 548 = .ok (.iconst 0, 1) := by decide +kernel
theorem dL_law_549 : decode cL_law 549 = .ok (.invokevirtual 66, 3) := by decide +kernel
theorem dL_law_552 : decode cL_law 552 = .ok (.aload_n 2, 1) := by decide +kernel
theorem dL_law_553 : decode cL_law 553 = .ok (.aload_n 0, 1) := by decide +kernel
theorem dL_law_554 : decode cL_law 554 = .ok (.iload_n 3, 1) := by decide +kernel
theorem dL_law_555 : decode cL_law 555 = .ok (.iconst 1, 1) := by decide +kernel
theorem dL_law_556 : decode cL_law 556 = .ok (.iadd, 1) := by decide +kernel
theorem dL_law_557 : decode cL_law 557 = .ok (.iaload, 1) := by decide +kernel
theorem dL_law_558 : decode cL_law 558 = .ok (.aload_n 0, 1) := by decide +kernel
theorem dL_law_559 : decode cL_law 559 = .ok (.iload_n 3, 1) := by decide +kernel
theorem dL_law_560 : decode cL_law 560 = .ok (.iconst 2, 1) := by decide +kernel
theorem dL_law_561 : decode cL_law 561 = .ok (.iadd, 1) := by decide +kernel
theorem dL_law_562 : decode cL_law 562 = .ok (.iaload, 1) := by decide +kernel
theorem dL_law_563 : decode cL_law 563 = .ok (.ifCond .eq 7, 3) := by decide +kernel
theorem dL_law_566 : decode cL_law 566 = .ok (.iconst 1, 1) := by decide +kernel
theorem dL_law_567 : decode cL_law 567 = .ok (.goto 4, 3) := by decide +kernel
theorem dL_law_570 : decode cL_law 570 = .ok (.iconst 0, 1) := by decide +kernel
theorem dL_law_571 : decode cL_law 571 = .ok (.invokevirtual 70, 3) := by decide +kernel
theorem dL_law_574 : decode cL_law 574 = .ok (.if_icmp .eq 657, 3) := by decide +kernel
theorem dL_law_577 : decode cL_law 577 = .ok (.iconst 0, 1) := by decide +kernel
theorem dL_law_578 : decode cL_law 578 = .ok (.ireturn, 1) := by decide +kernel
theorem dL_law_579 : decode cL_law 579 = .ok (.aload_n 1, 1) := by decide +kernel
theorem dL_law_580 : decode cL_law 580 = .ok (.aload_n 0, 1) := by decide +kernel
theorem dL_law_581 : decode cL_law 581 = .ok (.iload_n 3, 1) := by decide +kernel
theorem dL_law_582 : decode cL_law 582 = .ok (.iconst 1, 1) := by decide +kernel
theorem dL_law_583 : decode cL_law 583 = .ok (.iadd, 1) := by decide +kernel
theorem dL_law_584 : decode cL_law 584 = .ok (.iaload, 1) := by decide +kernel
theorem dL_law_585 : decode cL_law 585 = .ok (.aload_n 0, 1) := by decide +kernel
theorem dL_law_586 : decode cL_law 586 = .ok (.iload_n 3, 1) := by decide +kernel
theorem dL_law_587 : decode cL_law 587 = .ok (.iconst 2, 1) := by decide +kernel
theorem dL_law_588 : decode cL_law 588 = .ok (.iadd, 1) := by decide +kernel
theorem dL_law_589 : decode cL_law 589 = .ok (.iaload, 1) := by decide +kernel
theorem dL_law_590 : decode cL_law 590 = .ok (.invokevirtual 71, 3) := by decide +kernel
theorem dL_law_593 : decode cL_law 593 = .ok (.aload_n 2, 1) := by decide +kernel
theorem dL_law_594 : decode cL_law 594 = .ok (.aload_n 0, 1) := by decide +kernel
theorem dL_law_595 : decode cL_law 595 = .ok (.iload_n 3, 1) := by decide +kernel
theorem dL_law_596 : decode cL_law 596 = .ok (.iconst 1, 1) := by decide +kernel
theorem dL_law_597 : decode cL_law 597 = .ok (.iadd, 1) := by decide +kernel
theorem dL_law_598 : decode cL_law 598 = .ok (.iaload, 1) := by decide +kernel
theorem dL_law_599 : decode cL_law 599 = .ok (.aload_n 0, 1) := by decide +kernel
theorem dL_law_600 : decode cL_law 600 = .ok (.iload_n 3, 1) := by decide +kernel
theorem dL_law_601 : decode cL_law 601 = .ok (.iconst 2, 1) := by decide +kernel
theorem dL_law_602 : decode cL_law 602 = .ok (.iadd, 1) := by decide +kernel
theorem dL_law_603 : decode cL_law 603 = .ok (.iaload, 1) := by decide +kernel
theorem dL_law_604 : decode cL_law 604 = .ok (.invokevirtual 74, 3) := by decide +kernel
theorem dL_law_607 : decode cL_law 607 = .ok (.if_icmp .eq 624, 3) := by decide +kernel
theorem dL_law_610 : decode cL_law 610 = .ok (.iconst 0, 1) := by decide +kernel
theorem dL_law_611 : decode cL_law 611 = .ok (.ireturn, 1) := by decide +kernel
theorem dL_law_612 : decode cL_law 612 = .ok (.aload_n 1, 1) := by decide +kernel
theorem dL_law_613 : decode cL_law 613 = .ok (.aload_n 0, 1) := by decide +kernel
theorem dL_law_614 : decode cL_law 614 = .ok (.iload_n 3, 1) := by decide +kernel
theorem dL_law_615 : decode cL_law 615 = .ok (.iconst 1, 1) := by decide +kernel
theorem dL_law_616 : decode cL_law 616 = .ok (.iadd, 1) := by decide +kernel
theorem dL_law_617 : decode cL_law 617 = .ok (.iaload, 1) := by decide +kernel
theorem dL_law_618 : decode cL_law 618 = .ok (.aload_n 0, 1) := by decide +kernel
theorem dL_law_619 : decode cL_law 619 = .ok (.iload_n 3, 1) := by decide +kernel
theorem dL_law_620 : decode cL_law 620 = .ok (.iconst 2, 1) := by decide +kernel
theorem dL_law_621 : decode cL_law 621 = .ok (.iadd, 1) := by decide +kernel
theorem dL_law_622 : decode cL_law 622 = .ok (.iaload, 1) := by decide +kernel
theorem dL_law_623 : decode cL_law 623 = .ok (.invokevirtual 75, 3) := by decide +kernel
theorem dL_law_626 : decode cL_law 626 = .ok (.aload_n 2, 1) := by decide +kernel
theorem dL_law_627 : decode cL_law 627 = .ok (.aload_n 0, 1) := by decide +kernel
theorem dL_law_628 : decode cL_law 628 = .ok (.iload_n 3, 1) := by decide +kernel
theorem dL_law_629 : decode cL_law 629 = .ok (.iconst 1, 1) := by decide +kernel
theorem dL_law_630 : decode cL_law 630 = .ok (.iadd, 1) := by decide +kernel
theorem dL_law_631 : decode cL_law 631 = .ok (.iaload, 1) := by decide +kernel
theorem dL_law_632 : decode cL_law 632 = .ok (.aload_n 0, 1) := by decide +kernel
theorem dL_law_633 : decode cL_law 633 = .ok (.iload_n 3, 1) := by decide +kernel
theorem dL_law_634 : decode cL_law 634 = .ok (.iconst 2, 1) := by decide +kernel
theorem dL_law_635 : decode cL_law 635 = .ok (.iadd, 1) := by decide +kernel
theorem dL_law_636 : decode cL_law 636 = .ok (.iaload, 1) := by decide +kernel
theorem dL_law_637 : decode cL_law 637 = .ok (.invokevirtual 78, 3) := by decide +kernel
theorem dL_law_640 : decode cL_law 640 = .ok (.if_icmp .eq 591, 3) := by decide +kernel
theorem dL_law_643 : decode cL_law 643 = .ok (.iconst 0, 1) := by decide +kernel
theorem dL_law_644 : decode cL_law 644 = .ok (.ireturn, 1) := by decide +kernel
theorem dL_law_645 : decode cL_law 645 = .ok (.aload_n 1, 1) := by decide +kernel
theorem dL_law_646 : decode cL_law 646 = .ok (.aload_n 0, 1) := by decide +kernel
theorem dL_law_647 : decode cL_law 647 = .ok (.iload_n 3, 1) := by decide +kernel
theorem dL_law_648 : decode cL_law 648 = .ok (.iconst 1, 1) := by decide +kernel
theorem dL_law_649 : decode cL_law 649 = .ok (.iadd, 1) := by decide +kernel
theorem dL_law_650 : decode cL_law 650 = .ok (.iaload, 1) := by decide +kernel
theorem dL_law_651 : decode cL_law 651 = .ok (.aload_n 0, 1) := by decide +kernel
theorem dL_law_652 : decode cL_law 652 = .ok (.iload_n 3, 1) := by decide +kernel
theorem dL_law_653 : decode cL_law 653 = .ok (.iconst 2, 1) := by decide +kernel
theorem dL_law_654 : decode cL_law 654 = .ok (.iadd, 1) := by decide +kernel
theorem dL_law_655 : decode cL_law 655 = .ok (.iaload, 1) := by decide +kernel
theorem dL_law_656 : decode cL_law 656 = .ok (.invokevirtual 79, 3) := by decide +kernel
theorem dL_law_659 : decode cL_law 659 = .ok (.aload_n 2, 1) := by decide +kernel
theorem dL_law_660 : decode cL_law 660 = .ok (.aload_n 0, 1) := by decide +kernel
theorem dL_law_661 : decode cL_law 661 = .ok (.iload_n 3, 1) := by decide +kernel
theorem dL_law_662 : decode cL_law 662 = .ok (.iconst 1, 1) := by decide +kernel
theorem dL_law_663 : decode cL_law 663 = .ok (.iadd, 1) := by decide +kernel
theorem dL_law_664 : decode cL_law 664 = .ok (.iaload, 1) := by decide +kernel
theorem dL_law_665 : decode cL_law 665 = .ok (.aload_n 0, 1) := by decide +kernel
theorem dL_law_666 : decode cL_law 666 = .ok (.iload_n 3, 1) := by decide +kernel
theorem dL_law_667 : decode cL_law 667 = .ok (.iconst 2, 1) := by decide +kernel
theorem dL_law_668 : decode cL_law 668 = .ok (.iadd, 1) := by decide +kernel
theorem dL_law_669 : decode cL_law 669 = .ok (.iaload, 1) := by decide +kernel
theorem dL_law_670 : decode cL_law 670 = .ok (.invokevirtual 82, 3) := by decide +kernel
theorem dL_law_673 : decode cL_law 673 = .ok (.if_icmp .eq 558, 3) := by decide +kernel
theorem dL_law_676 : decode cL_law 676 = .ok (.iconst 0, 1) := by decide +kernel
theorem dL_law_677 : decode cL_law 677 = .ok (.ireturn, 1) := by decide +kernel
theorem dL_law_678 : decode cL_law 678 = .ok (.aload_n 1, 1) := by decide +kernel
theorem dL_law_679 : decode cL_law 679 = .ok (.aload_n 0, 1) := by decide +kernel
theorem dL_law_680 : decode cL_law 680 = .ok (.iload_n 3, 1) := by decide +kernel
theorem dL_law_681 : decode cL_law 681 = .ok (.iconst 1, 1) := by decide +kernel
theorem dL_law_682 : decode cL_law 682 = .ok (.iadd, 1) := by decide +kernel
theorem dL_law_683 : decode cL_law 683 = .ok (.iaload, 1) := by decide +kernel
theorem dL_law_684 : decode cL_law 684 = .ok (.aload_n 0, 1) := by decide +kernel
theorem dL_law_685 : decode cL_law 685 = .ok (.iload_n 3, 1) := by decide +kernel
theorem dL_law_686 : decode cL_law 686 = .ok (.iconst 2, 1) := by decide +kernel
theorem dL_law_687 : decode cL_law 687 = .ok (.iadd, 1) := by decide +kernel
theorem dL_law_688 : decode cL_law 688 = .ok (.iaload, 1) := by decide +kernel
theorem dL_law_689 : decode cL_law 689 = .ok (.invokevirtual 83, 3) := by decide +kernel
theorem dL_law_692 : decode cL_law 692 = .ok (.aload_n 2, 1) := by decide +kernel
theorem dL_law_693 : decode cL_law 693 = .ok (.aload_n 0, 1) := by decide +kernel
theorem dL_law_694 : decode cL_law 694 = .ok (.iload_n 3, 1) := by decide +kernel
theorem dL_law_695 : decode cL_law 695 = .ok (.iconst 1, 1) := by decide +kernel
theorem dL_law_696 : decode cL_law 696 = .ok (.iadd, 1) := by decide +kernel
theorem dL_law_697 : decode cL_law 697 = .ok (.iaload, 1) := by decide +kernel
theorem dL_law_698 : decode cL_law 698 = .ok (.aload_n 0, 1) := by decide +kernel
theorem dL_law_699 : decode cL_law 699 = .ok (.iload_n 3, 1) := by decide +kernel
theorem dL_law_700 : decode cL_law 700 = .ok (.iconst 2, 1) := by decide +kernel
theorem dL_law_701 : decode cL_law 701 = .ok (.iadd, 1) := by decide +kernel
theorem dL_law_702 : decode cL_law 702 = .ok (.iaload, 1) := by decide +kernel
theorem dL_law_703 : decode cL_law 703 = .ok (.invokevirtual 86, 3) := by decide +kernel
theorem dL_law_706 : decode cL_law 706 = .ok (.if_icmp .eq 525, 3) := by decide +kernel
theorem dL_law_709 : decode cL_law 709 = .ok (.iconst 0, 1) := by decide +kernel
theorem dL_law_710 : decode cL_law 710 = .ok (.ireturn, 1) := by decide +kernel
theorem dL_law_711 : decode cL_law 711 = .ok (.aload_n 1, 1) := by decide +kernel
theorem dL_law_712 : decode cL_law 712 = .ok (.aload_n 0, 1) := by decide +kernel
theorem dL_law_713 : decode cL_law 713 = .ok (.iload_n 3, 1) := by decide +kernel
theorem dL_law_714 : decode cL_law 714 = .ok (.iconst 1, 1) := by decide +kernel
theorem dL_law_715 : decode cL_law 715 = .ok (.iadd, 1) := by decide +kernel
theorem dL_law_716 : decode cL_law 716 = .ok (.iaload, 1) := by decide +kernel
theorem dL_law_717 : decode cL_law 717 = .ok (.aload_n 0, 1) := by decide +kernel
theorem dL_law_718 : decode cL_law 718 = .ok (.iload_n 3, 1) := by decide +kernel
theorem dL_law_719 : decode cL_law 719 = .ok (.iconst 2, 1) := by decide +kernel
theorem dL_law_720 : decode cL_law 720 = .ok (.iadd, 1) := by decide +kernel
theorem dL_law_721 : decode cL_law 721 = .ok (.iaload, 1) := by decide +kernel
theorem dL_law_722 : decode cL_law 722 = .ok (.invokevirtual 87, 3) := by decide +kernel
theorem dL_law_725 : decode cL_law 725 = .ok (.aload_n 2, 1) := by decide +kernel
theorem dL_law_726 : decode cL_law 726 = .ok (.aload_n 0, 1) := by decide +kernel
theorem dL_law_727 : decode cL_law 727 = .ok (.iload_n 3, 1) := by decide +kernel
theorem dL_law_728 : decode cL_law 728 = .ok (.iconst 1, 1) := by decide +kernel
theorem dL_law_729 : decode cL_law 729 = .ok (.iadd, 1) := by decide +kernel
theorem dL_law_730 : decode cL_law 730 = .ok (.iaload, 1) := by decide +kernel
theorem dL_law_731 : decode cL_law 731 = .ok (.aload_n 0, 1) := by decide +kernel
theorem dL_law_732 : decode cL_law 732 = .ok (.iload_n 3, 1) := by decide +kernel
theorem dL_law_733 : decode cL_law 733 = .ok (.iconst 2, 1) := by decide +kernel
theorem dL_law_734 : decode cL_law 734 = .ok (.iadd, 1) := by decide +kernel
theorem dL_law_735 : decode cL_law 735 = .ok (.iaload, 1) := by decide +kernel
theorem dL_law_736 : decode cL_law 736 = .ok (.invokevirtual 90, 3) := by decide +kernel
theorem dL_law_739 : decode cL_law 739 = .ok (.if_icmp .eq 492, 3) := by decide +kernel
theorem dL_law_742 : decode cL_law 742 = .ok (.iconst 0, 1) := by decide +kernel
theorem dL_law_743 : decode cL_law 743 = .ok (.ireturn, 1) := by decide +kernel
theorem dL_law_744 : decode cL_law 744 = .ok (.aload_n 1, 1) := by decide +kernel
theorem dL_law_745 : decode cL_law 745 = .ok (.invokevirtual 91, 3) := by decide +kernel
theorem dL_law_748 : decode cL_law 748 = .ok (.aload_n 2, 1) := by decide +kernel
theorem dL_law_749 : decode cL_law 749 = .ok (.invokevirtual 94, 3) := by decide +kernel
theorem dL_law_752 : decode cL_law 752 = .ok (.if_icmp .eq 479, 3) := by decide +kernel
theorem dL_law_755 : decode cL_law 755 = .ok (.iconst 0, 1) := by decide +kernel
theorem dL_law_756 : decode cL_law 756 = .ok (.ireturn, 1) := by decide +kernel
theorem dL_law_757 : decode cL_law 757 = .ok (.aload_n 1, 1) := by decide +kernel
theorem dL_law_758 : decode cL_law 758 = .ok (.invokevirtual 95, 3) := by decide +kernel
theorem dL_law_761 : decode cL_law 761 = .ok (.aload_n 2, 1) := by decide +kernel
theorem dL_law_762 : decode cL_law 762 = .ok (.invokevirtual 98, 3) := by decide +kernel
theorem dL_law_765 : decode cL_law 765 = .ok (.if_icmp .eq 466, 3) := by decide +kernel
theorem dL_law_768 : decode cL_law 768 = .ok (.iconst 0, 1) := by decide +kernel
theorem dL_law_769 : decode cL_law 769 = .ok (.ireturn, 1) := by decide +kernel
theorem dL_law_770 : decode cL_law 770 = .ok (.aload_n 1, 1) := by decide +kernel
theorem dL_law_771 : decode cL_law 771 = .ok (.invokevirtual 99, 3) := by decide +kernel
theorem dL_law_774 : decode cL_law 774 = .ok (.aload_n 2, 1) := by decide +kernel
theorem dL_law_775 : decode cL_law 775 = .ok (.invokevirtual 102, 3) := by decide +kernel
theorem dL_law_778 : decode cL_law 778 = .ok (.if_icmp .eq 453, 3) := by decide +kernel
theorem dL_law_781 : decode cL_law 781 = .ok (.iconst 0, 1) := by decide +kernel
theorem dL_law_782 : decode cL_law 782 = .ok (.ireturn, 1) := by decide +kernel
theorem dL_law_783 : decode cL_law 783 = .ok (.aload_n 1, 1) := by decide +kernel
theorem dL_law_784 : decode cL_law 784 = .ok (.invokevirtual 103, 3) := by decide +kernel
theorem dL_law_787 : decode cL_law 787 = .ok (.aload_n 2, 1) := by decide +kernel
theorem dL_law_788 : decode cL_law 788 = .ok (.invokevirtual 106, 3) := by decide +kernel
theorem dL_law_791 : decode cL_law 791 = .ok (.if_icmp .eq 440, 3) := by decide +kernel
theorem dL_law_794 : decode cL_law 794 = .ok (.iconst 0, 1) := by decide +kernel
theorem dL_law_795 : decode cL_law 795 = .ok (.ireturn, 1) := by decide +kernel
theorem dL_law_796 : decode cL_law 796 = .ok (.aload_n 1, 1) := by decide +kernel
theorem dL_law_797 : decode cL_law 797 = .ok (.invokevirtual 107, 3) := by decide +kernel
theorem dL_law_800 : decode cL_law 800 = .ok (.aload_n 2, 1) := by decide +kernel
theorem dL_law_801 : decode cL_law 801 = .ok (.invokevirtual 110, 3) := by decide +kernel
theorem dL_law_804 : decode cL_law 804 = .ok (.if_icmp .eq 427, 3) := by decide +kernel
theorem dL_law_807 : decode cL_law 807 = .ok (.iconst 0, 1) := by decide +kernel
theorem dL_law_808 : decode cL_law 808 = .ok (.ireturn, 1) := by decide +kernel
theorem dL_law_809 : decode cL_law 809 = .ok (.aload_n 1, 1) := by decide +kernel
theorem dL_law_810 : decode cL_law 810 = .ok (.invokevirtual 111, 3) := by decide +kernel
theorem dL_law_813 : decode cL_law 813 = .ok (.aload_n 2, 1) := by decide +kernel
theorem dL_law_814 : decode cL_law 814 = .ok (.invokevirtual 114, 3) := by decide +kernel
theorem dL_law_817 : decode cL_law 817 = .ok (.if_icmp .eq 414, 3) := by decide +kernel
theorem dL_law_820 : decode cL_law 820 = .ok (.iconst 0, 1) := by decide +kernel
theorem dL_law_821 : decode cL_law 821 = .ok (.ireturn, 1) := by decide +kernel
theorem dL_law_822 : decode cL_law 822 = .ok (.aload_n 1, 1) := by decide +kernel
theorem dL_law_823 : decode cL_law 823 = .ok (.aload_n 0, 1) := by decide +kernel
theorem dL_law_824 : decode cL_law 824 = .ok (.iload_n 3, 1) := by decide +kernel
theorem dL_law_825 : decode cL_law 825 = .ok (.iconst 1, 1) := by decide +kernel
theorem dL_law_826 : decode cL_law 826 = .ok (.iadd, 1) := by decide +kernel
theorem dL_law_827 : decode cL_law 827 = .ok (.iaload, 1) := by decide +kernel
theorem dL_law_828 : decode cL_law 828 = .ok (.aload_n 0, 1) := by decide +kernel
theorem dL_law_829 : decode cL_law 829 = .ok (.iload_n 3, 1) := by decide +kernel
theorem dL_law_830 : decode cL_law 830 = .ok (.iconst 2, 1) := by decide +kernel
theorem dL_law_831 : decode cL_law 831 = .ok (.iadd, 1) := by decide +kernel
theorem dL_law_832 : decode cL_law 832 = .ok (.iaload, 1) := by decide +kernel
theorem dL_law_833 : decode cL_law 833 = .ok (.invokevirtual 115, 3) := by decide +kernel
theorem dL_law_836 : decode cL_law 836 = .ok (.aload_n 2, 1) := by decide +kernel
theorem dL_law_837 : decode cL_law 837 = .ok (.aload_n 0, 1) := by decide +kernel
theorem dL_law_838 : decode cL_law 838 = .ok (.iload_n 3, 1) := by decide +kernel
theorem dL_law_839 : decode cL_law 839 = .ok (.iconst 1, 1) := by decide +kernel
theorem dL_law_840 : decode cL_law 840 = .ok (.iadd, 1) := by decide +kernel
theorem dL_law_841 : decode cL_law 841 = .ok (.iaload, 1) := by decide +kernel
theorem dL_law_842 : decode cL_law 842 = .ok (.aload_n 0, 1) := by decide +kernel
theorem dL_law_843 : decode cL_law 843 = .ok (.iload_n 3, 1) := by decide +kernel
theorem dL_law_844 : decode cL_law 844 = .ok (.iconst 2, 1) := by decide +kernel
theorem dL_law_845 : decode cL_law 845 = .ok (.iadd, 1) := by decide +kernel
theorem dL_law_846 : decode cL_law 846 = .ok (.iaload, 1) := by decide +kernel
theorem dL_law_847 : decode cL_law 847 = .ok (.invokevirtual 118, 3) := by decide +kernel
theorem dL_law_850 : decode cL_law 850 = .ok (.if_icmp .eq 381, 3) := by decide +kernel
theorem dL_law_853 : decode cL_law 853 = .ok (.iconst 0, 1) := by decide +kernel
theorem dL_law_854 : decode cL_law 854 = .ok (.ireturn, 1) := by decide +kernel
theorem dL_law_855 : decode cL_law 855 = .ok (.aload_n 1, 1) := by decide +kernel
theorem dL_law_856 : decode cL_law 856 = .ok (.aload_n 0, 1) := by decide +kernel
theorem dL_law_857 : decode cL_law 857 = .ok (.iload_n 3, 1) := by decide +kernel
theorem dL_law_858 : decode cL_law 858 = .ok (.iconst 1, 1) := by decide +kernel
theorem dL_law_859 : decode cL_law 859 = .ok (.iadd, 1) := by decide +kernel
theorem dL_law_860 : decode cL_law 860 = .ok (.iaload, 1) := by decide +kernel
theorem dL_law_861 : decode cL_law 861 = .ok (.aload_n 0, 1) := by decide +kernel
theorem dL_law_862 : decode cL_law 862 = .ok (.iload_n 3, 1) := by decide +kernel
theorem dL_law_863 : decode cL_law 863 = .ok (.iconst 2, 1) := by decide +kernel
theorem dL_law_864 : decode cL_law 864 = .ok (.iadd, 1) := by decide +kernel
theorem dL_law_865 : decode cL_law 865 = .ok (.iaload, 1) := by decide +kernel
theorem dL_law_866 : decode cL_law 866 = .ok (.invokevirtual 119, 3) := by decide +kernel
theorem dL_law_869 : decode cL_law 869 = .ok (.aload_n 2, 1) := by decide +kernel
theorem dL_law_870 : decode cL_law 870 = .ok (.aload_n 0, 1) := by decide +kernel
theorem dL_law_871 : decode cL_law 871 = .ok (.iload_n 3, 1) := by decide +kernel
theorem dL_law_872 : decode cL_law 872 = .ok (.iconst 1, 1) := by decide +kernel
theorem dL_law_873 : decode cL_law 873 = .ok (.iadd, 1) := by decide +kernel
theorem dL_law_874 : decode cL_law 874 = .ok (.iaload, 1) := by decide +kernel
theorem dL_law_875 : decode cL_law 875 = .ok (.aload_n 0, 1) := by decide +kernel
theorem dL_law_876 : decode cL_law 876 = .ok (.iload_n 3, 1) := by decide +kernel
theorem dL_law_877 : decode cL_law 877 = .ok (.iconst 2, 1) := by decide +kernel
theorem dL_law_878 : decode cL_law 878 = .ok (.iadd, 1) := by decide +kernel
theorem dL_law_879 : decode cL_law 879 = .ok (.iaload, 1) := by decide +kernel
theorem dL_law_880 : decode cL_law 880 = .ok (.invokevirtual 122, 3) := by decide +kernel
theorem dL_law_883 : decode cL_law 883 = .ok (.if_icmp .eq 348, 3) := by decide +kernel
theorem dL_law_886 : decode cL_law 886 = .ok (.iconst 0, 1) := by decide +kernel
theorem dL_law_887 : decode cL_law 887 = .ok (.ireturn, 1) := by decide +kernel
theorem dL_law_888 : decode cL_law 888 = .ok (.aload_n 1, 1) := by decide +kernel
theorem dL_law_889 : decode cL_law 889 = .ok (.aload_n 0, 1) := by decide +kernel
theorem dL_law_890 : decode cL_law 890 = .ok (.iload_n 3, 1) := by decide +kernel
theorem dL_law_891 : decode cL_law 891 = .ok (.iconst 1, 1) := by decide +kernel
theorem dL_law_892 : decode cL_law 892 = .ok (.iadd, 1) := by decide +kernel
theorem dL_law_893 : decode cL_law 893 = .ok (.iaload, 1) := by decide +kernel
theorem dL_law_894 : decode cL_law 894 = .ok (.aload_n 0, 1) := by decide +kernel
theorem dL_law_895 : decode cL_law 895 = .ok (.iload_n 3, 1) := by decide +kernel
theorem dL_law_896 : decode cL_law 896 = .ok (.iconst 2, 1) := by decide +kernel
theorem dL_law_897 : decode cL_law 897 = .ok (.iadd, 1) := by decide +kernel
theorem dL_law_898 : decode cL_law 898 = .ok (.iaload, 1) := by decide +kernel
theorem dL_law_899 : decode cL_law 899 = .ok (.aload_n 0, 1) := by decide +kernel
theorem dL_law_900 : decode cL_law 900 = .ok (.iload_n 3, 1) := by decide +kernel
theorem dL_law_901 : decode cL_law 901 = .ok (.iconst 3, 1) := by decide +kernel
theorem dL_law_902 : decode cL_law 902 = .ok (.iadd, 1) := by decide +kernel
theorem dL_law_903 : decode cL_law 903 = .ok (.iaload, 1) := by decide +kernel
theorem dL_law_904 : decode cL_law 904 = .ok (.invokevirtual 123, 3) := by decide +kernel
theorem dL_law_907 : decode cL_law 907 = .ok (.aload_n 2, 1) := by decide +kernel
theorem dL_law_908 : decode cL_law 908 = .ok (.aload_n 0, 1) := by decide +kernel
theorem dL_law_909 : decode cL_law 909 = .ok (.iload_n 3, 1) := by decide +kernel
theorem dL_law_910 : decode cL_law 910 = .ok (.iconst 1, 1) := by decide +kernel
theorem dL_law_911 : decode cL_law 911 = .ok (.iadd, 1) := by decide +kernel
theorem dL_law_912 : decode cL_law 912 = .ok (.iaload, 1) := by decide +kernel
theorem dL_law_913 : decode cL_law 913 = .ok (.aload_n 0, 1) := by decide +kernel
theorem dL_law_914 : decode cL_law 914 = .ok (.iload_n 3, 1) := by decide +kernel
theorem dL_law_915 : decode cL_law 915 = .ok (.iconst 2, 1) := by decide +kernel
theorem dL_law_916 : decode cL_law 916 = .ok (.iadd, 1) := by decide +kernel
theorem dL_law_917 : decode cL_law 917 = .ok (.iaload, 1) := by decide +kernel
theorem dL_law_918 : decode cL_law 918 = .ok (.aload_n 0, 1) := by decide +kernel
theorem dL_law_919 : decode cL_law 919 = .ok (.iload_n 3, 1) := by decide +kernel
theorem dL_law_920 : decode cL_law 920 = .ok (.iconst 3, 1) := by decide +kernel
theorem dL_law_921 : decode cL_law 921 = .ok (.iadd, 1) := by decide +kernel
theorem dL_law_922 : decode cL_law 922 = .ok (.iaload, 1) := by decide +kernel
theorem dL_law_923 : decode cL_law 923 = .ok (.invokevirtual 126, 3) := by decide +kernel
theorem dL_law_926 : decode cL_law 926 = .ok (.if_icmp .eq 305, 3) := by decide +kernel
theorem dL_law_929 : decode cL_law 929 = .ok (.iconst 0, 1) := by decide +kernel
theorem dL_law_930 : decode cL_law 930 = .ok (.ireturn, 1) := by decide +kernel
theorem dL_law_931 : decode cL_law 931 = .ok (.aload_n 1, 1) := by decide +kernel
theorem dL_law_932 : decode cL_law 932 = .ok (.invokevirtual 127, 3) := by decide +kernel
theorem dL_law_935 : decode cL_law 935 = .ok (.aload_n 2, 1) := by decide +kernel
theorem dL_law_936 : decode cL_law 936 = .ok (.invokevirtual 130, 3) := by decide +kernel
theorem dL_law_939 : decode cL_law 939 = .ok (.if_icmp .eq 292, 3) := by decide +kernel
theorem dL_law_942 : decode cL_law 942 = .ok (.iconst 0, 1) := by decide +kernel
theorem dL_law_943 : decode cL_law 943 = .ok (.ireturn, 1) := by decide +kernel
theorem dL_law_944 : decode cL_law 944 = .ok (.aload_n 1, 1) := by decide +kernel
theorem dL_law_945 : decode cL_law 945 = .ok (.aload_n 0, 1) := by decide +kernel
theorem dL_law_946 : decode cL_law 946 = .ok (.iload_n 3, 1) := by decide +kernel
theorem dL_law_947 : decode cL_law 947 = .ok (.iconst 1, 1) := by decide +kernel
theorem dL_law_948 : decode cL_law 948 = .ok (.iadd, 1) := by decide +kernel
theorem dL_law_949 : decode cL_law 949 = .ok (.iaload, 1) := by decide +kernel
theorem dL_law_950 : decode cL_law 950 = .ok (.invokevirtual 131, 3) := by decide +kernel
theorem dL_law_953 : decode cL_law 953 = .ok (.aload_n 2, 1) := by decide +kernel
theorem dL_law_954 : decode cL_law 954 = .ok (.aload_n 0, 1) := by decide +kernel
theorem dL_law_955 : decode cL_law 955 = .ok (.iload_n 3, 1) := by decide +kernel
theorem dL_law_956 : decode cL_law 956 = .ok (.iconst 1, 1) := by decide +kernel
theorem dL_law_957 : decode cL_law 957 = .ok (.iadd, 1) := by decide +kernel
theorem dL_law_958 : decode cL_law 958 = .ok (.iaload, 1) := by decide +kernel
theorem dL_law_959 : decode cL_law 959 = .ok (.invokevirtual 134, 3) := by decide +kernel
theorem dL_law_962 : decode cL_law 962 = .ok (.if_icmp .eq 269, 3) := by decide +kernel
theorem dL_law_965 : decode cL_law 965 = .ok (.iconst 0, 1) := by decide +kernel
theorem dL_law_966 : decode cL_law 966 = .ok (.ireturn, 1) := by decide +kernel
theorem dL_law_967 : decode cL_law 967 = .ok (.aload_n 1, 1) := by decide +kernel
theorem dL_law_968 : decode cL_law 968 = .ok (.aload_n 0, 1) := by decide +kernel
theorem dL_law_969 : decode cL_law 969 = .ok (.iload_n 3, 1) := by decide +kernel
theorem dL_law_970 : decode cL_law 970 = .ok (.iconst 1, 1) := by decide +kernel
theorem dL_law_971 : decode cL_law 971 = .ok (.iadd, 1) := by decide +kernel
theorem dL_law_972 : decode cL_law 972 = .ok (.iaload, 1) := by decide +kernel
theorem dL_law_973 : decode cL_law 973 = .ok (.invokevirtual 135, 3) := by decide +kernel
theorem dL_law_976 : decode cL_law 976 = .ok (.aload_n 2, 1) := by decide +kernel
theorem dL_law_977 : decode cL_law 977 = .ok (.aload_n 0, 1) := by decide +kernel
theorem dL_law_978 : decode cL_law 978 = .ok (.iload_n 3, 1) := by decide +kernel
theorem dL_law_979 : decode cL_law 979 = .ok (.iconst 1, 1) := by decide +kernel
theorem dL_law_980 : decode cL_law 980 = .ok (.iadd, 1) := by decide +kernel
theorem dL_law_981 : decode cL_law 981 = .ok (.iaload, 1) := by decide +kernel
theorem dL_law_982 : decode cL_law 982 = .ok (.invokevirtual 138, 3) := by decide +kernel
theorem dL_law_985 : decode cL_law 985 = .ok (.if_icmp .eq 246, 3) := by decide +kernel
theorem dL_law_988 : decode cL_law 988 = .ok (.iconst 0, 1) := by decide +kernel
theorem dL_law_989 : decode cL_law 989 = .ok (.ireturn, 1) := by decide +kernel
theorem dL_law_990 : decode cL_law 990 = .ok (.aload_n 1, 1) := by decide +kernel
theorem dL_law_991 : decode cL_law 991 = .ok (.aload_n 0, 1) := by decide +kernel
theorem dL_law_992 : decode cL_law 992 = .ok (.iload_n 3, 1) := by decide +kernel
theorem dL_law_993 : decode cL_law 993 = .ok (.iconst 1, 1) := by decide +kernel
theorem dL_law_994 : decode cL_law 994 = .ok (.iadd, 1) := by decide +kernel
theorem dL_law_995 : decode cL_law 995 = .ok (.iaload, 1) := by decide +kernel
theorem dL_law_996 : decode cL_law 996 = .ok (.invokevirtual 139, 3) := by decide +kernel
theorem dL_law_999 : decode cL_law 999 = .ok (.aload_n 2, 1) := by decide +kernel
theorem dL_law_1000 : decode cL_law 1000 = .ok (.aload_n 0, 1) := by decide +kernel
theorem dL_law_1001 : decode cL_law 1001 = .ok (.iload_n 3, 1) := by decide +kernel
theorem dL_law_1002 : decode cL_law 1002 = .ok (.iconst 1, 1) := by decide +kernel
theorem dL_law_1003 : decode cL_law 1003 = .ok (.iadd, 1) := by decide +kernel
theorem dL_law_1004 : decode cL_law 1004 = .ok (.iaload, 1) := by decide +kernel
theorem dL_law_1005 : decode cL_law 1005 = .ok (.invokevirtual 142, 3) := by decide +kernel
theorem dL_law_1008 : decode cL_law 1008 = .ok (.if_icmp .eq 223, 3) := by decide +kernel
theorem dL_law_1011 : decode cL_law 1011 = .ok (.iconst 0, 1) := by decide +kernel
theorem dL_law_1012 : decode cL_law 1012 = .ok (.ireturn, 1) := by decide +kernel
theorem dL_law_1013 : decode cL_law 1013 = .ok (.aload_n 1, 1) := by decide +kernel
theorem dL_law_1014 : decode cL_law 1014 = .ok (.aload_n 0, 1) := by decide +kernel
theorem dL_law_1015 : decode cL_law 1015 = .ok (.iload_n 3, 1) := by decide +kernel
theorem dL_law_1016 : decode cL_law 1016 = .ok (.iconst 1, 1) := by decide +kernel
theorem dL_law_1017 : decode cL_law 1017 = .ok (.iadd, 1) := by decide +kernel
theorem dL_law_1018 : decode cL_law 1018 = .ok (.iaload, 1) := by decide +kernel
theorem dL_law_1019 : decode cL_law 1019 = .ok (.invokevirtual 143, 3) := by decide +kernel
theorem dL_law_1022 : decode cL_law 1022 = .ok (.aload_n 2, 1) := by decide +kernel
theorem dL_law_1023 : decode cL_law 1023 = .ok (.aload_n 0, 1) := by decide +kernel
theorem dL_law_1024 : decode cL_law 1024 = .ok (.iload_n 3, 1) := by decide +kernel
theorem dL_law_1025 : decode cL_law 1025 = .ok (.iconst 1, 1) := by decide +kernel
theorem dL_law_1026 : decode cL_law 1026 = .ok (.iadd, 1) := by decide +kernel
theorem dL_law_1027 : decode cL_law 1027 = .ok (.iaload, 1) := by decide +kernel
theorem dL_law_1028 : decode cL_law 1028 = .ok (.invokevirtual 146, 3) := by decide +kernel
theorem dL_law_1031 : decode cL_law 1031 = .ok (.if_icmp .eq 200, 3) := by decide +kernel
theorem dL_law_1034 : decode cL_law 1034 = .ok (.iconst 0, 1) := by decide +kernel
theorem dL_law_1035 : decode cL_law 1035 = .ok (.ireturn, 1) := by decide +kernel
theorem dL_law_1036 : decode cL_law 1036 = .ok (.aload_n 1, 1) := by decide +kernel
theorem dL_law_1037 : decode cL_law 1037 = .ok (.invokevirtual 147, 3) := by decide +kernel
theorem dL_law_1040 : decode cL_law 1040 = .ok (.aload_n 2, 1) := by decide +kernel
theorem dL_law_1041 : decode cL_law 1041 = .ok (.invokevirtual 150, 3) := by decide +kernel
theorem dL_law_1044 : decode cL_law 1044 = .ok (.if_icmp .eq 187, 3) := by decide +kernel
theorem dL_law_1047 : decode cL_law 1047 = .ok (.iconst 0, 1) := by decide +kernel
theorem dL_law_1048 : decode cL_law 1048 = .ok (.ireturn, 1) := by decide +kernel
theorem dL_law_1049 : decode cL_law 1049 = .ok (.aload_n 1, 1) := by decide +kernel
theorem dL_law_1050 : decode cL_law 1050 = .ok (.aload_n 0, 1) := by decide +kernel
theorem dL_law_1051 : decode cL_law 1051 = .ok (.iload_n 3, 1) := by decide +kernel
theorem dL_law_1052 : decode cL_law 1052 = .ok (.iconst 1, 1) := by decide +kernel
theorem dL_law_1053 : decode cL_law 1053 = .ok (.iadd, 1) := by decide +kernel
theorem dL_law_1054 : decode cL_law 1054 = .ok (.iaload, 1) := by decide +kernel
theorem dL_law_1055 : decode cL_law 1055 = .ok (.invokevirtual 151, 3) := by decide +kernel
theorem dL_law_1058 : decode cL_law 1058 = .ok (.aload_n 2, 1) := by decide +kernel
theorem dL_law_1059 : decode cL_law 1059 = .ok (.aload_n 0, 1) := by decide +kernel
theorem dL_law_1060 : decode cL_law 1060 = .ok (.iload_n 3, 1) := by decide +kernel
theorem dL_law_1061 : decode cL_law 1061 = .ok (.iconst 1, 1) := by decide +kernel
theorem dL_law_1062 : decode cL_law 1062 = .ok (.iadd, 1) := by decide +kernel
theorem dL_law_1063 : decode cL_law 1063 = .ok (.iaload, 1) := by decide +kernel
theorem dL_law_1064 : decode cL_law 1064 = .ok (.invokevirtual 154, 3) := by decide +kernel
theorem dL_law_1067 : decode cL_law 1067 = .ok (.if_icmp .eq 164, 3) := by decide +kernel
theorem dL_law_1070 : decode cL_law 1070 = .ok (.iconst 0, 1) := by decide +kernel
theorem dL_law_1071 : decode cL_law 1071 = .ok (.ireturn, 1) := by decide +kernel
theorem dL_law_1072 : decode cL_law 1072 = .ok (.aload_n 1, 1) := by decide +kernel
theorem dL_law_1073 : decode cL_law 1073 = .ok (.invokevirtual 155, 3) := by decide +kernel
theorem dL_law_1076 : decode cL_law 1076 = .ok (.aload_n 2, 1) := by decide +kernel
theorem dL_law_1077 : decode cL_law 1077 = .ok (.invokevirtual 158, 3) := by decide +kernel
theorem dL_law_1080 : decode cL_law 1080 = .ok (.if_icmp .eq 151, 3) := by decide +kernel
theorem dL_law_1083 : decode cL_law 1083 = .ok (.iconst 0, 1) := by decide +kernel
theorem dL_law_1084 : decode cL_law 1084 = .ok (.ireturn, 1) := by decide +kernel
theorem dL_law_1085 : decode cL_law 1085 = .ok (.aload_n 1, 1) := by decide +kernel
theorem dL_law_1086 : decode cL_law 1086 = .ok (.invokevirtual 159, 3) := by decide +kernel
theorem dL_law_1089 : decode cL_law 1089 = .ok (.dstore 4, 2) := by decide +kernel
theorem dL_law_1091 : decode cL_law 1091 = .ok (.aload_n 2, 1) := by decide +kernel
theorem dL_law_1092 : decode cL_law 1092 = .ok (.invokevirtual 163, 3) := by decide +kernel
theorem dL_law_1095 : decode cL_law 1095 = .ok (.dstore 6, 2) := by decide +kernel
theorem dL_law_1097 : decode cL_law 1097 = .ok (.dload 4, 2) := by decide +kernel
theorem dL_law_1099 : decode cL_law 1099 = .ok (.dload 6, 2) := by decide +kernel
theorem dL_law_1101 : decode cL_law 1101 = .ok (.dcmp .l, 1) := by decide +kernel
theorem dL_law_1102 : decode cL_law 1102 = .ok (.ifCond .eq 21, 3) := by decide +kernel
theorem dL_law_1105 : decode cL_law 1105 = .ok (.dload 4, 2) := by decide +kernel
theorem dL_law_1107 : decode cL_law 1107 = .ok (.dload 4, 2) := by decide +kernel
theorem dL_law_1109 : decode cL_law 1109 = .ok (.dcmp .l, 1) := by decide +kernel
theorem dL_law_1110 : decode cL_law 1110 = .ok (.ifCond .eq 11, 3) := by decide +kernel
theorem dL_law_1113 : decode cL_law 1113 = .ok (.dload 6, 2) := by decide +kernel
theorem dL_law_1115 : decode cL_law 1115 = .ok (.dload 6, 2) := by decide +kernel
theorem dL_law_1117 : decode cL_law 1117 = .ok (.dcmp .l, 1) := by decide +kernel
theorem dL_law_1118 : decode cL_law 1118 = .ok (.ifCond .ne 5, 3) := by decide +kernel
theorem dL_law_1121 : decode cL_law 1121 = .ok (.iconst 0, 1) := by decide +kernel
theorem dL_law_1122 : decode cL_law 1122 = .ok (.ireturn, 1) := by decide +kernel
theorem dL_law_1123 : decode cL_law 1123 = .ok (.goto 108, 3) := by decide +kernel
theorem dL_law_1126 : decode cL_law 1126 = .ok (.aload_n 1, 1) := by decide +kernel
theorem dL_law_1127 : decode cL_law 1127 = .ok (.invokevirtual 164, 3) := by decide +kernel
theorem dL_law_1130 : decode cL_law 1130 = .ok (.f2d, 1) := by decide +kernel
theorem dL_law_1131 : decode cL_law 1131 = .ok (.dstore 4, 2) := by decide +kernel
theorem dL_law_1133 : decode cL_law 1133 = .ok (.aload_n 2, 1) := by decide +kernel
theorem dL_law_1134 : decode cL_law 1134 = .ok (.invokevirtual 168, 3) := by decide +kernel
theorem dL_law_1137 : decode cL_law 1137 = .ok (.f2d, 1) := by decide +kernel
theorem dL_law_1138 : decode cL_law 1138 = .ok (.dstore 6, 2) := by decide +kernel
theorem dL_law_1140 : decode cL_law 1140 = .ok (.dload 4, 2) := by decide +kernel
theorem dL_law_1142 : decode cL_law 1142 = .ok (.dload 6, 2) := by decide +kernel
theorem dL_law_1144 : decode cL_law 1144 = .ok (.dcmp .l, 1) := by decide +kernel
theorem dL_law_1145 : decode cL_law 1145 = .ok (.ifCond .eq 21, 3) := by decide +kernel
theorem dL_law_1148 : decode cL_law 1148 = .ok (.dload 4, 2) := by decide +kernel
theorem dL_law_1150 : decode cL_law 1150 = .ok (.dload 4, 2) := by decide +kernel
theorem dL_law_1152 : decode cL_law 1152 = .ok (.dcmp .l, 1) := by decide +kernel
theorem dL_law_1153 : decode cL_law 1153 = .ok (.ifCond .eq 11, 3) := by decide +kernel
theorem dL_law_1156 : decode cL_law 1156 = .ok (.dload 6, 2) := by decide +kernel
theorem dL_law_1158 : decode cL_law 1158 = .ok (.dload 6, 2) := by decide +kernel
theorem dL_law_1160 : decode cL_law 1160 = .ok (.dcmp .l, 1) := by decide +kernel
theorem dL_law_1161 : decode cL_law 1161 = .ok (.ifCond .ne 5, 3) := by decide +kernel
theorem dL_law_1164 : decode cL_law 1164 = .ok (.iconst 0, 1) := by decide +kernel
theorem dL_law_1165 : decode cL_law 1165 = .ok (.ireturn, 1) := by decide +kernel
theorem dL_law_1166 : decode cL_law 1166 = .ok (.goto 65, 3) := by decide +kernel
theorem dL_law_1169 : decode cL_law 1169 = .ok (.aload_n 1, 1) := by decide +kernel
theorem dL_law_1170 : decode cL_law 1170 = .ok (.aload_n 0, 1) := by decide +kernel
theorem dL_law_1171 : decode cL_law 1171 = .ok (.iload_n 3, 1) := by decide +kernel
theorem dL_law_1172 : decode cL_law 1172 = .ok (.iconst 1, 1) := by decide +kernel
theorem dL_law_1173 : decode cL_law 1173 = .ok (.iadd, 1) := by decide +kernel
theorem dL_law_1174 : decode cL_law 1174 = .ok (.iaload, 1) := by decide +kernel
theorem dL_law_1175 : decode cL_law 1175 = .ok (.invokevirtual 169, 3) := by decide +kernel
theorem dL_law_1178 : decode cL_law 1178 = .ok (.aload_n 2, 1) := by decide +kernel
theorem dL_law_1179 : decode cL_law 1179 = .ok (.aload_n 0, 1) := by decide +kernel
theorem dL_law_1180 : decode cL_law 1180 = .ok (.iload_n 3, 1) := by decide +kernel
theorem dL_law_1181 : decode cL_law 1181 = .ok (.iconst 1, 1) := by decide +kernel
theorem dL_law_1182 : decode cL_law 1182 = .ok (.iadd, 1) := by decide +kernel
theorem dL_law_1183 : decode cL_law 1183 = .ok (.iaload, 1) := by decide +kernel
theorem dL_law_1184 : decode cL_law 1184 = .ok (.invokevirtual 172, 3) := by decide +kernel
theorem dL_law_1187 : decode cL_law 1187 = .ok (.if_icmp .eq 44, 3) := by decide +kernel
theorem dL_law_1190 : decode cL_law 1190 = .ok (.iconst 0, 1) := by decide +kernel
theorem dL_law_1191 : decode cL_law 1191 = .ok (.ireturn, 1) := by decide +kernel
theorem dL_law_1192 : decode cL_law 1192 = .ok (.aload_n 1, 1) := by decide +kernel
theorem dL_law_1193 : decode cL_law 1193 = .ok (.invokevirtual 173, 3) := by decide +kernel
theorem dL_law_1196 : decode cL_law 1196 = .ok (.aload_n 2, 1) := by decide +kernel
theorem dL_law_1197 : decode cL_law 1197 = .ok (.invokevirtual 176, 3) := by decide +kernel
theorem dL_law_1200 : decode cL_law 1200 = .ok (.if_icmp .eq 31, 3) := by decide +kernel
theorem dL_law_1203 : decode cL_law 1203 = .ok (.iconst 0, 1) := by decide +kernel
theorem dL_law_1204 : decode cL_law 1204 = .ok (.ireturn, 1) := by decide +kernel
theorem dL_law_1205 : decode cL_law 1205 = .ok (.aload_n 1, 1) := by decide +kernel
theorem dL_law_1206 : decode cL_law 1206 = .ok (.invokevirtual 177, 3) := by decide +kernel
theorem dL_law_1209 : decode cL_law 1209 = .ok (.aload_n 2, 1) := by decide +kernel
theorem dL_law_1210 : decode cL_law 1210 = .ok (.invokevirtual 180, 3) := by decide +kernel
theorem dL_law_1213 : decode cL_law 1213 = .ok (.if_icmp .eq 18, 3) := by decide +kernel
theorem dL_law_1216 : decode cL_law 1216 = .ok (.iconst 0, 1) := by decide +kernel
theorem dL_law_1217 : decode cL_law 1217 = .ok (.ireturn, 1) := by decide +kernel
theorem dL_law_1218 : decode cL_law 1218 = .ok (.aload_n 1, 1) := by decide +kernel
theorem dL_law_1219 : decode cL_law 1219 = .ok (.invokevirtual 181, 3) := by decide +kernel
theorem dL_law_1222 : decode cL_law 1222 = .ok (.aload_n 2, 1) := by decide +kernel
theorem dL_law_1223 : decode cL_law 1223 = .ok (.invokevirtual 184, 3) := by decide +kernel
theorem dL_law_1226 : decode cL_law 1226 = .ok (.if_icmp .eq 5, 3) := by decide +kernel
theorem dL_law_1229 : decode cL_law 1229 = .ok (.iconst 0, 1) := by decide +kernel
theorem dL_law_1230 : decode cL_law 1230 = .ok (.ireturn, 1) := by decide +kernel
theorem dL_law_1231 : decode cL_law 1231 = .ok (.iinc 3 4, 3) := by decide +kernel
theorem dL_law_1234 : decode cL_law 1234 = .ok (.goto (-1216), 3) := by decide +kernel
theorem dL_law_1237 : decode cL_law 1237 = .ok (.iconst 1, 1) := by decide +kernel
theorem dL_law_1238 : decode cL_law 1238 = .ok (.ireturn, 1) := by decide +kernel
