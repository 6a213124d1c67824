/-! printed: the law's calls -/
set_option maxRecDepth 20000 in
theorem ggL_law_X12_init : GoodIn wsL_lawB wsX12_init := goodIn_r _ [8, 9, 10, 11, 12, 13, 14, 15, 16, 17, 18, 19, 20, 21, 22, 23, 24, 25, 26, 27, 28, 29, 30, 31, 32, 33, 34, 35, 36, 37, 38, 39, 40, 41, 42, 43, 44, 45, 46, 47, 48, 49, 50, 51, 52, 53, 54, 55, 56, 57, 58, 59, 60, 61, 62, 63, 64, 65, 66, 67, 68, 69, 70, 71, 72, 73, 74, 75, 76, 77, 78, 79, 80, 81, 82, 83, 84, 85, 86, 87, 88, 89, 90, 91, 92, 93, 94, 95, 96, 97, 98, 99, 100, 101, 102, 103, 104, 105, 106, 107, 108, 109, 110, 111, 112, 113, 114, 115, 116, 117, 118, 119, 120, 121, 122, 123, 124, 125, 126, 127, 128, 129, 130, 131, 132, 133, 134, 135, 136, 137, 1442, 1443, 1444, 1445, 1446, 1447, 1448, 1449, 1450, 1451, 1404, 1405, 1406, 1407, 1408, 1409, 1410, 1411, 1412, 1413, 1414, 1452, 1453, 1454, 1455, 1456, 1457, 1458, 1459, 1460, 1461, 1462, 1463, 1464, 1465, 1466, 1467, 1468, 1469, 1470, 1471, 1472, 1473, 1474, 1475, 1476, 1477, 1478, 1479, 1480, 1481, 1482, 1483, 1484, 1485] (by decide +kernel) (by decide +kernel)
set_option maxRecDepth 20000 in
theorem gL_law_X12_init : GoodIn wsL_lawB (wsX12_init) := ggL_law_X12_init
set_option maxRecDepth 20000 in
theorem ggL_law_X13_init : GoodIn wsL_lawB wsX13_init := goodIn_r _ [140, 141, 10, 11, 48, 142, 143, 144, 145, 146, 147, 148, 149, 150, 151, 152, 153, 154, 155, 156, 157, 158, 159, 160, 161, 162, 163, 164, 165, 166, 167, 168, 169, 170, 171, 5, 172, 1415, 1416, 1417, 1418, 1419, 1420, 1421, 1422, 1423, 1424, 1425, 1426, 1427, 1428, 1429, 1430, 1431, 1432, 1433, 1434, 1435, 1436, 1437, 1438, 1439, 1440, 1441] (by decide +kernel) (by decide +kernel)
set_option maxRecDepth 20000 in
theorem gL_law_X13_init : GoodIn wsL_lawB (wsX13_init) := ggL_law_X13_init
set_option maxRecDepth 20000 in
theorem ggL_law_X12_clear : GoodIn wsL_lawB wsX12_clear := goodIn_r _ [176, 15, 22, 177, 178, 179, 14, 180, 49, 181, 182, 183, 184, 50, 54, 58, 62, 185, 186, 187, 188, 81, 82, 83, 84, 189, 190, 191, 53, 192, 193, 194, 195, 196, 197, 57, 198, 73, 74, 199, 200, 201, 202, 61, 203, 204, 205, 206, 207, 21, 208, 209, 1404, 1405, 1406, 1407, 1408, 1409, 1410, 1411, 1412, 1413, 1414, 1442, 1443, 1444, 1445, 1446, 1447, 1448, 1449, 1450, 1451, 1475, 1476, 1477, 1478, 1479, 1480, 1481, 1482, 1483, 1484, 1485, 1452, 1453, 1454] (by decide +kernel) (by decide +kernel)
set_option maxRecDepth 20000 in
theorem gL_law_X12_clear : GoodIn wsL_lawB (wsV RL 13 RX12 yX12_clear wsX12_clear) := goodIn_app (goodIn_of _ (by decide +kernel)) ggL_law_X12_clear
set_option maxRecDepth 20000 in
theorem ggL_law_X13_clear : GoodIn wsL_lawB wsX13_clear := goodIn_r _ [213, 147, 214, 215, 216, 5, 217, 218, 219, 220, 221, 142, 169, 170, 171, 172, 1415, 1416, 1417, 1418, 1419, 1420, 1421, 1422, 1423, 1424, 1425, 1426, 1427, 1428, 1429, 1430, 1431, 1432, 1433, 1434, 1435, 1436, 1437, 1438, 1439, 1440, 1441] (by decide +kernel) (by decide +kernel)
set_option maxRecDepth 20000 in
theorem gL_law_X13_clear : GoodIn wsL_lawB (wsV RL 17 RX13 yX13_clear wsX13_clear) := goodIn_app (goodIn_of _ (by decide +kernel)) ggL_law_X13_clear
set_option maxRecDepth 20000 in
theorem ggL_law_X12_append : GoodIn wsL_lawB wsX12_append := goodIn_r _ [225, 26, 226, 227, 228, 25, 229, 230, 96, 1404, 1405, 1406, 1407, 1408, 1409, 1410, 1411, 1412, 1413, 1414, 1455, 1456, 1457, 1458, 1459, 1460, 1461, 1462] (by decide +kernel) (by decide +kernel)
set_option maxRecDepth 20000 in
theorem gL_law_X12_append : GoodIn wsL_lawB (wsV RL 18 RX12 yX12_append wsX12_append) := goodIn_app (goodIn_of _ (by decide +kernel)) ggL_law_X12_append
set_option maxRecDepth 20000 in
theorem ggL_law_X13_append : GoodIn wsL_lawB wsX13_append := goodIn_r _ [234, 163, 160, 235, 236, 5, 237, 1415, 1416, 1417, 1418, 1419, 1420, 1421, 1422, 1423, 1424, 1425, 1426, 1427, 1428, 1429, 1430, 1431, 1432, 1433, 1434, 1435, 1436, 1437, 1438, 1439, 1440, 1441] (by decide +kernel) (by decide +kernel)
set_option maxRecDepth 20000 in
theorem gL_law_X13_append : GoodIn wsL_lawB (wsV RL 22 RX13 yX13_append wsX13_append) := goodIn_app (goodIn_of _ (by decide +kernel)) ggL_law_X13_append
set_option maxRecDepth 20000 in
theorem ggL_law_X12_plant : GoodIn wsL_lawB wsX12_plant := goodIn_r _ [241, 16, 15, 30, 242, 243, 244, 14, 245, 49, 246, 247, 248, 249, 50, 54, 58, 62, 185, 186, 187, 188, 250, 251, 252, 53, 253, 67, 254, 68, 69, 193, 194, 255, 256, 257, 57, 258, 73, 259, 74, 260, 261, 262, 61, 263, 78, 264, 79, 80, 204, 265, 266, 267, 268, 269, 2, 270, 271, 272, 273, 29, 274, 104, 105, 106, 107, 275, 276, 277, 278, 22, 279, 280, 281, 21, 282, 90, 283, 209, 284, 285, 286, 287, 288, 1404, 1405, 1406, 1407, 1408, 1409, 1410, 1411, 1412, 1413, 1414, 1442, 1443, 1444, 1445, 1446, 1447, 1448, 1449, 1450, 1451, 1475, 1476, 1477, 1478, 1479, 1480, 1481, 1482, 1483, 1484, 1485, 1463, 1464, 1465, 1466, 1452, 1453, 1454] (by decide +kernel) (by decide +kernel)
set_option maxRecDepth 20000 in
theorem gL_law_X12_plant : GoodIn wsL_lawB (wsV RL 23 RX12 yX12_plant wsX12_plant) := goodIn_app (goodIn_of _ (by decide +kernel)) ggL_law_X12_plant
set_option maxRecDepth 20000 in
theorem ggL_law_X13_plant : GoodIn wsL_lawB wsX13_plant := goodIn_r _ [292, 293, 294, 295, 5, 296, 142, 143, 297, 298, 299, 300, 301, 302, 235, 236, 237, 303, 304, 305, 306, 307, 308, 309, 218, 219, 220, 221, 310, 311, 312, 313, 148, 149, 314, 315, 316, 317, 150, 151, 152, 318, 319, 320, 321, 322, 323, 324, 325, 147, 146, 1415, 1416, 1417, 1418, 1419, 1420, 1421, 1422, 1423, 1424, 1425, 1426, 1427, 1428, 1429, 1430, 1431, 1432, 1433, 1434, 1435, 1436, 1437, 1438, 1439, 1440, 1441] (by decide +kernel) (by decide +kernel)
set_option maxRecDepth 20000 in
theorem gL_law_X13_plant : GoodIn wsL_lawB (wsV RL 27 RX13 yX13_plant wsX13_plant) := goodIn_app (goodIn_of _ (by decide +kernel)) ggL_law_X13_plant
set_option maxRecDepth 20000 in
theorem ggL_law_X12_bear : GoodIn wsL_lawB wsX12_bear := goodIn_r _ [329, 16, 15, 30, 242, 243, 244, 14, 245, 49, 246, 247, 248, 249, 50, 54, 58, 62, 185, 186, 187, 188, 250, 251, 252, 53, 253, 67, 254, 68, 69, 193, 194, 255, 256, 257, 57, 258, 73, 259, 74, 260, 261, 262, 61, 263, 78, 264, 79, 80, 204, 330, 331, 332, 333, 269, 2, 270, 271, 272, 273, 29, 274, 104, 105, 106, 107, 275, 276, 277, 278, 22, 279, 280, 281, 21, 282, 90, 283, 209, 284, 285, 286, 287, 288, 1404, 1405, 1406, 1407, 1408, 1409, 1410, 1411, 1412, 1413, 1414, 1442, 1443, 1444, 1445, 1446, 1447, 1448, 1449, 1450, 1451, 1475, 1476, 1477, 1478, 1479, 1480, 1481, 1482, 1483, 1484, 1485, 1463, 1464, 1465, 1466, 1452, 1453, 1454] (by decide +kernel) (by decide +kernel)
set_option maxRecDepth 20000 in
theorem gL_law_X12_bear : GoodIn wsL_lawB (wsV RL 28 RX12 yX12_bear wsX12_bear) := goodIn_app (goodIn_of _ (by decide +kernel)) ggL_law_X12_bear
set_option maxRecDepth 20000 in
theorem ggL_law_X13_bear : GoodIn wsL_lawB wsX13_bear := goodIn_r _ [337, 293, 294, 295, 5, 296, 142, 143, 297, 298, 299, 300, 301, 302, 235, 236, 237, 338, 339, 340, 341, 342, 343, 344, 310, 311, 312, 313, 148, 149, 314, 315, 316, 317, 150, 151, 152, 345, 346, 347, 348, 322, 323, 324, 325, 147, 146, 1415, 1416, 1417, 1418, 1419, 1420, 1421, 1422, 1423, 1424, 1425, 1426, 1427, 1428, 1429, 1430, 1431, 1432, 1433, 1434, 1435, 1436, 1437, 1438, 1439, 1440, 1441] (by decide +kernel) (by decide +kernel)
set_option maxRecDepth 20000 in
theorem gL_law_X13_bear : GoodIn wsL_lawB (wsV RL 31 RX13 yX13_bear wsX13_bear) := goodIn_app (goodIn_of _ (by decide +kernel)) ggL_law_X13_bear
set_option maxRecDepth 20000 in
theorem ggL_law_X12_hang : GoodIn wsL_lawB wsX12_hang := goodIn_r _ [352, 16, 15, 30, 242, 243, 244, 14, 245, 49, 246, 247, 248, 249, 50, 54, 58, 62, 185, 186, 187, 188, 250, 251, 252, 53, 253, 67, 254, 68, 69, 193, 194, 255, 256, 257, 57, 258, 73, 259, 74, 260, 261, 262, 61, 263, 78, 264, 79, 80, 204, 353, 354, 355, 356, 357, 358, 359, 2, 360, 361, 269, 270, 271, 272, 273, 29, 274, 104, 105, 106, 107, 362, 363, 364, 365, 366, 367, 368, 369, 370, 285, 286, 287, 371, 372, 373, 275, 276, 277, 278, 22, 279, 280, 281, 21, 282, 90, 283, 209, 284, 288, 1404, 1405, 1406, 1407, 1408, 1409, 1410, 1411, 1412, 1413, 1414, 1442, 1443, 1444, 1445, 1446, 1447, 1448, 1449, 1450, 1451, 1475, 1476, 1477, 1478, 1479, 1480, 1481, 1482, 1483, 1484, 1485, 1463, 1464, 1465, 1466, 1452, 1453, 1454] (by decide +kernel) (by decide +kernel)
set_option maxRecDepth 20000 in
theorem gL_law_X12_hang : GoodIn wsL_lawB (wsV RL 32 RX12 yX12_hang wsX12_hang) := goodIn_app (goodIn_of _ (by decide +kernel)) ggL_law_X12_hang
set_option maxRecDepth 20000 in
theorem ggL_law_X13_hang : GoodIn wsL_lawB wsX13_hang := goodIn_r _ [377, 293, 294, 295, 5, 296, 142, 143, 297, 298, 299, 378, 379, 380, 300, 301, 302, 235, 236, 237, 303, 304, 305, 381, 382, 383, 384, 385, 386, 387, 388, 310, 311, 312, 313, 148, 149, 389, 390, 391, 392, 393, 394, 395, 396, 314, 315, 316, 317, 150, 151, 152, 397, 398, 399, 400, 322, 323, 324, 325, 147, 146, 1415, 1416, 1417, 1418, 1419, 1420, 1421, 1422, 1423, 1424, 1425, 1426, 1427, 1428, 1429, 1430, 1431, 1432, 1433, 1434, 1435, 1436, 1437, 1438, 1439, 1440, 1441] (by decide +kernel) (by decide +kernel)
set_option maxRecDepth 20000 in
theorem gL_law_X13_hang : GoodIn wsL_lawB (wsV RL 36 RX13 yX13_hang wsX13_hang) := goodIn_app (goodIn_of _ (by decide +kernel)) ggL_law_X13_hang
set_option maxRecDepth 20000 in
theorem ggL_law_X12_greet : GoodIn wsL_lawB wsX12_greet := goodIn_r _ [404, 16, 15, 30, 242, 243, 244, 14, 245, 49, 246, 247, 248, 249, 50, 54, 58, 62, 185, 186, 187, 188, 250, 251, 252, 53, 253, 67, 254, 68, 69, 193, 194, 255, 256, 257, 57, 258, 73, 259, 74, 260, 261, 262, 61, 263, 78, 264, 79, 80, 204, 405, 406, 407, 408, 409, 372, 286, 373, 359, 2, 360, 361, 269, 270, 271, 272, 273, 29, 274, 104, 105, 106, 107, 410, 411, 412, 413, 414, 285, 287, 362, 363, 364, 365, 415, 416, 417, 418, 419, 420, 421, 422, 423, 424, 425, 426, 427, 275, 276, 277, 278, 22, 279, 280, 281, 21, 282, 90, 283, 209, 284, 288, 1404, 1405, 1406, 1407, 1408, 1409, 1410, 1411, 1412, 1413, 1414, 1442, 1443, 1444, 1445, 1446, 1447, 1448, 1449, 1450, 1451, 1475, 1476, 1477, 1478, 1479, 1480, 1481, 1482, 1483, 1484, 1485, 1463, 1464, 1465, 1466, 1452, 1453, 1454] (by decide +kernel) (by decide +kernel)
set_option maxRecDepth 20000 in
theorem gL_law_X12_greet : GoodIn wsL_lawB (wsV RL 37 RX12 yX12_greet wsX12_greet) := goodIn_app (goodIn_of _ (by decide +kernel)) ggL_law_X12_greet
set_option maxRecDepth 20000 in
theorem ggL_law_X13_greet : GoodIn wsL_lawB wsX13_greet := goodIn_r _ [431, 293, 294, 295, 5, 296, 142, 143, 297, 298, 299, 378, 379, 380, 300, 301, 302, 235, 236, 237, 432, 433, 434, 435, 436, 437, 438, 439, 385, 386, 387, 388, 310, 311, 312, 313, 148, 149, 440, 441, 442, 443, 444, 445, 446, 447, 448, 449, 450, 218, 219, 220, 221, 389, 390, 391, 392, 393, 394, 395, 396, 451, 452, 453, 454, 314, 315, 316, 317, 150, 151, 152, 455, 456, 457, 458, 322, 323, 324, 325, 147, 146, 1415, 1416, 1417, 1418, 1419, 1420, 1421, 1422, 1423, 1424, 1425, 1426, 1427, 1428, 1429, 1430, 1431, 1432, 1433, 1434, 1435, 1436, 1437, 1438, 1439, 1440, 1441] (by decide +kernel) (by decide +kernel)
set_option maxRecDepth 20000 in
theorem gL_law_X13_greet : GoodIn wsL_lawB (wsV RL 40 RX13 yX13_greet wsX13_greet) := goodIn_app (goodIn_of _ (by decide +kernel)) ggL_law_X13_greet
