/-! printed: the law's calls -/
theorem goodIn_cons {big a : List Cond} {c : Cond} (hc : GoodIn big [c]) (ha : GoodIn big a) : GoodIn big (c :: a) := fun w h => (List.mem_cons.mp h).elim (fun e => hc w (by rw [e]; exact List.mem_cons_self)) (ha w)
set_option maxRecDepth 20000 in
theorem hL_X12_give_c : GoodIn wsL_lawB [Cond.code yX12_give cX12_give 4 (some .int)] := goodIn_r _ [462] (by decide +kernel) (by decide +kernel)
set_option maxRecDepth 20000 in
theorem hL_X12_give_wsX12_give_r1 : GoodIn wsL_lawB wsX12_give_r1 := goodIn_r _ [16, 15, 30, 242, 243, 244, 14, 245, 49, 246, 247, 248, 249, 50, 54, 58, 62, 185, 186, 187, 188, 250, 251, 252] (by decide +kernel) (by decide +kernel)
set_option maxRecDepth 20000 in
theorem hL_X12_give_wsX12_give_r2 : GoodIn wsL_lawB wsX12_give_r2 := goodIn_r _ [53, 253, 67, 254, 68, 69, 193, 194, 255, 256, 257, 57, 258, 73, 259, 74, 260, 261, 262, 61, 263, 78, 264, 79] (by decide +kernel) (by decide +kernel)
set_option maxRecDepth 20000 in
theorem hL_X12_give_wsX12_give_r3 : GoodIn wsL_lawB wsX12_give_r3 := goodIn_r _ [80, 204, 463, 464, 465, 466, 409, 372, 286, 373, 359, 2, 360, 361, 269, 270, 271, 272, 273, 29, 274, 104, 105, 106] (by decide +kernel) (by decide +kernel)
set_option maxRecDepth 20000 in
theorem hL_X12_give_wsX12_give_r4 : GoodIn wsL_lawB wsX12_give_r4 := goodIn_r _ [107, 410, 411, 412, 413, 414, 285, 287, 362, 363, 364, 365, 275, 276, 277, 278, 22, 279, 280, 281, 21, 282, 90, 283] (by decide +kernel) (by decide +kernel)
set_option maxRecDepth 20000 in
theorem hL_X12_give_wsX12_give_r5 : GoodIn wsL_lawB wsX12_give_r5 := goodIn_r _ [209, 284, 288] (by decide +kernel) (by decide +kernel)
set_option maxRecDepth 20000 in
theorem hL_X12_give_wsX120 : GoodIn wsL_lawB wsX120 := goodIn_r _ [1404, 1405, 1406, 1407, 1408, 1409, 1410, 1411, 1412, 1413, 1414] (by decide +kernel) (by decide +kernel)
set_option maxRecDepth 20000 in
theorem hL_X12_give_wsX60 : GoodIn wsL_lawB wsX60 := goodIn_r _ [1442, 1443, 1444, 1445, 1446, 1447, 1448, 1449, 1450, 1451] (by decide +kernel) (by decide +kernel)
set_option maxRecDepth 20000 in
theorem hL_X12_give_wsX70 : GoodIn wsL_lawB wsX70 := goodIn_r _ [1475, 1476, 1477, 1478, 1479] (by decide +kernel) (by decide +kernel)
set_option maxRecDepth 20000 in
theorem hL_X12_give_wsX40 : GoodIn wsL_lawB wsX40 := goodIn_r _ [1480, 1481] (by decide +kernel) (by decide +kernel)
set_option maxRecDepth 20000 in
theorem hL_X12_give_wsX10 : GoodIn wsL_lawB wsX10 := goodIn_r _ [1482, 1483, 1484, 1485] (by decide +kernel) (by decide +kernel)
set_option maxRecDepth 20000 in
theorem hL_X12_give_wsX110 : GoodIn wsL_lawB wsX110 := goodIn_r _ [1463, 1464, 1465, 1466] (by decide +kernel) (by decide +kernel)
set_option maxRecDepth 20000 in
theorem hL_X12_give_wsX50 : GoodIn wsL_lawB wsX50 := goodIn_r _ [1452, 1453, 1454] (by decide +kernel) (by decide +kernel)
set_option maxRecDepth 20000 in
theorem ggL_law_X12_give : GoodIn wsL_lawB wsX12_give := goodIn_cons hL_X12_give_c (goodIn_app (goodIn_app (goodIn_app (goodIn_app (goodIn_app (goodIn_app (goodIn_app (goodIn_app hL_X12_give_wsX12_give_r1 (goodIn_app hL_X12_give_wsX12_give_r2 (goodIn_app hL_X12_give_wsX12_give_r3 (goodIn_app hL_X12_give_wsX12_give_r4 hL_X12_give_wsX12_give_r5)))) hL_X12_give_wsX120) hL_X12_give_wsX60) hL_X12_give_wsX70) hL_X12_give_wsX40) hL_X12_give_wsX10) hL_X12_give_wsX110) hL_X12_give_wsX50)
set_option maxRecDepth 20000 in
theorem gL_law_X12_give : GoodIn wsL_lawB (wsV RL 41 RX12 yX12_give wsX12_give) := goodIn_app (goodIn_of _ (by decide +kernel)) ggL_law_X12_give
set_option maxRecDepth 20000 in
theorem hL_X13_give_c : GoodIn wsL_lawB [Cond.code yX13_give cX13_give 4 (some .int)] := goodIn_r _ [470] (by decide +kernel) (by decide +kernel)
set_option maxRecDepth 20000 in
theorem hL_X13_give_wsX13_give_r1 : GoodIn wsL_lawB wsX13_give_r1 := goodIn_r _ [293, 294, 295, 5, 296, 142, 143, 297, 298, 299, 378, 379, 380, 300, 301, 302, 235, 236, 237, 303, 304, 305, 471, 472] (by decide +kernel) (by decide +kernel)
set_option maxRecDepth 20000 in
theorem hL_X13_give_wsX13_give_r2 : GoodIn wsL_lawB wsX13_give_r2 := goodIn_r _ [473, 474, 436, 437, 438, 439, 385, 386, 387, 388, 310, 311, 312, 313, 148, 149, 440, 441, 442, 443, 444, 445, 446, 447] (by decide +kernel) (by decide +kernel)
set_option maxRecDepth 20000 in
theorem hL_X13_give_wsX13_give_r3 : GoodIn wsL_lawB wsX13_give_r3 := goodIn_r _ [448, 449, 450, 218, 219, 220, 221, 389, 390, 391, 392, 393, 394, 395, 396, 314, 315, 316, 317, 150, 151, 152, 475, 476] (by decide +kernel) (by decide +kernel)
set_option maxRecDepth 20000 in
theorem hL_X13_give_wsX13_give_r4 : GoodIn wsL_lawB wsX13_give_r4 := goodIn_r _ [477, 478, 322, 323, 324, 325, 147, 146] (by decide +kernel) (by decide +kernel)
set_option maxRecDepth 20000 in
theorem hL_X13_give_wsX130 : GoodIn wsL_lawB wsX130 := goodIn_r _ [1415, 1416, 1417, 1418, 1419, 1420, 1421, 1422, 1423, 1424, 1425, 1426, 1427, 1428, 1429, 1430, 1431, 1432, 1433, 1434, 1435, 1436, 1437, 1438, 1439, 1440, 1441] (by decide +kernel) (by decide +kernel)
set_option maxRecDepth 20000 in
theorem ggL_law_X13_give : GoodIn wsL_lawB wsX13_give := goodIn_cons hL_X13_give_c (goodIn_app (goodIn_app hL_X13_give_wsX13_give_r1 (goodIn_app hL_X13_give_wsX13_give_r2 (goodIn_app hL_X13_give_wsX13_give_r3 hL_X13_give_wsX13_give_r4))) hL_X13_give_wsX130)
set_option maxRecDepth 20000 in
theorem gL_law_X13_give : GoodIn wsL_lawB (wsV RL 44 RX13 yX13_give wsX13_give) := goodIn_app (goodIn_of _ (by decide +kernel)) ggL_law_X13_give
set_option maxRecDepth 20000 in
theorem hL_X12_cat_c : GoodIn wsL_lawB [Cond.code yX12_cat cX12_cat 2 (some .int)] := goodIn_r _ [482] (by decide +kernel) (by decide +kernel)
set_option maxRecDepth 20000 in
theorem hL_X12_cat_wsX12_cat_r1 : GoodIn wsL_lawB wsX12_cat_r1 := goodIn_r _ [16, 15, 30, 242, 243, 244, 14, 245, 49, 246, 247, 248, 249, 50, 54, 58, 62, 185, 186, 187, 188, 250, 251, 252] (by decide +kernel) (by decide +kernel)
set_option maxRecDepth 20000 in
theorem hL_X12_cat_wsX12_cat_r2 : GoodIn wsL_lawB wsX12_cat_r2 := goodIn_r _ [53, 253, 67, 254, 68, 69, 193, 194, 255, 256, 257, 57, 258, 73, 259, 74, 260, 261, 262, 61, 263, 78, 264, 79] (by decide +kernel) (by decide +kernel)
set_option maxRecDepth 20000 in
theorem hL_X12_cat_wsX12_cat_r3 : GoodIn wsL_lawB wsX12_cat_r3 := goodIn_r _ [80, 204, 483, 484, 485, 486, 487, 269, 2, 270, 488, 489, 490, 491, 271, 272, 273, 29, 274, 104, 105, 106, 107, 492] (by decide +kernel) (by decide +kernel)
set_option maxRecDepth 20000 in
theorem hL_X12_cat_wsX12_cat_r4 : GoodIn wsL_lawB wsX12_cat_r4 := goodIn_r _ [493, 494, 495, 275, 276, 277, 278, 22, 279, 280, 281, 21, 282, 90, 283, 209, 284, 285, 286, 287, 288] (by decide +kernel) (by decide +kernel)
set_option maxRecDepth 20000 in
theorem hL_X12_cat_wsX120 : GoodIn wsL_lawB wsX120 := goodIn_r _ [1404, 1405, 1406, 1407, 1408, 1409, 1410, 1411, 1412, 1413, 1414] (by decide +kernel) (by decide +kernel)
set_option maxRecDepth 20000 in
theorem hL_X12_cat_wsX60 : GoodIn wsL_lawB wsX60 := goodIn_r _ [1442, 1443, 1444, 1445, 1446, 1447, 1448, 1449, 1450, 1451] (by decide +kernel) (by decide +kernel)
set_option maxRecDepth 20000 in
theorem hL_X12_cat_wsX70 : GoodIn wsL_lawB wsX70 := goodIn_r _ [1475, 1476, 1477, 1478, 1479] (by decide +kernel) (by decide +kernel)
set_option maxRecDepth 20000 in
theorem hL_X12_cat_wsX40 : GoodIn wsL_lawB wsX40 := goodIn_r _ [1480, 1481] (by decide +kernel) (by decide +kernel)
set_option maxRecDepth 20000 in
theorem hL_X12_cat_wsX10 : GoodIn wsL_lawB wsX10 := goodIn_r _ [1482, 1483, 1484, 1485] (by decide +kernel) (by decide +kernel)
set_option maxRecDepth 20000 in
theorem hL_X12_cat_wsX110 : GoodIn wsL_lawB wsX110 := goodIn_r _ [1463, 1464, 1465, 1466] (by decide +kernel) (by decide +kernel)
set_option maxRecDepth 20000 in
theorem hL_X12_cat_wsX50 : GoodIn wsL_lawB wsX50 := goodIn_r _ [1452, 1453, 1454] (by decide +kernel) (by decide +kernel)
set_option maxRecDepth 20000 in
theorem ggL_law_X12_cat : GoodIn wsL_lawB wsX12_cat := goodIn_cons hL_X12_cat_c (goodIn_app (goodIn_app (goodIn_app (goodIn_app (goodIn_app (goodIn_app (goodIn_app (goodIn_app hL_X12_cat_wsX12_cat_r1 (goodIn_app hL_X12_cat_wsX12_cat_r2 (goodIn_app hL_X12_cat_wsX12_cat_r3 hL_X12_cat_wsX12_cat_r4))) hL_X12_cat_wsX120) hL_X12_cat_wsX60) hL_X12_cat_wsX70) hL_X12_cat_wsX40) hL_X12_cat_wsX10) hL_X12_cat_wsX110) hL_X12_cat_wsX50)
set_option maxRecDepth 20000 in
theorem gL_law_X12_cat : GoodIn wsL_lawB (wsV RL 45 RX12 yX12_cat wsX12_cat) := goodIn_app (goodIn_of _ (by decide +kernel)) ggL_law_X12_cat
set_option maxRecDepth 20000 in
theorem hL_X13_cat_c : GoodIn wsL_lawB [Cond.code yX13_cat cX13_cat 2 (some .int)] := goodIn_r _ [499] (by decide +kernel) (by decide +kernel)
set_option maxRecDepth 20000 in
theorem hL_X13_cat_wsX13_cat_r1 : GoodIn wsL_lawB wsX13_cat_r1 := goodIn_r _ [293, 294, 295, 5, 296, 142, 143, 297, 298, 299, 300, 301, 302, 235, 236, 237, 500, 501, 502, 503, 504, 505, 506, 507] (by decide +kernel) (by decide +kernel)
set_option maxRecDepth 20000 in
theorem hL_X13_cat_wsX13_cat_r2 : GoodIn wsL_lawB wsX13_cat_r2 := goodIn_r _ [508, 509, 510, 511, 310, 311, 312, 313, 148, 149, 314, 315, 316, 317, 150, 151, 152, 512, 513, 514, 515, 322, 323, 324] (by decide +kernel) (by decide +kernel)
set_option maxRecDepth 20000 in
theorem hL_X13_cat_wsX13_cat_r3 : GoodIn wsL_lawB wsX13_cat_r3 := goodIn_r _ [325, 147, 146] (by decide +kernel) (by decide +kernel)
set_option maxRecDepth 20000 in
theorem hL_X13_cat_wsX130 : GoodIn wsL_lawB wsX130 := goodIn_r _ [1415, 1416, 1417, 1418, 1419, 1420, 1421, 1422, 1423, 1424, 1425, 1426, 1427, 1428, 1429, 1430, 1431, 1432, 1433, 1434, 1435, 1436, 1437, 1438, 1439, 1440, 1441] (by decide +kernel) (by decide +kernel)
set_option maxRecDepth 20000 in
theorem ggL_law_X13_cat : GoodIn wsL_lawB wsX13_cat := goodIn_cons hL_X13_cat_c (goodIn_app (goodIn_app hL_X13_cat_wsX13_cat_r1 (goodIn_app hL_X13_cat_wsX13_cat_r2 hL_X13_cat_wsX13_cat_r3)) hL_X13_cat_wsX130)
set_option maxRecDepth 20000 in
theorem gL_law_X13_cat : GoodIn wsL_lawB (wsV RL 49 RX13 yX13_cat wsX13_cat) := goodIn_app (goodIn_of _ (by decide +kernel)) ggL_law_X13_cat
set_option maxRecDepth 20000 in
theorem hL_X12_swap_c : GoodIn wsL_lawB [Cond.code yX12_swap cX12_swap 3 (some .int)] := goodIn_r _ [519] (by decide +kernel) (by decide +kernel)
set_option maxRecDepth 20000 in
theorem hL_X12_swap_wsX12_swap_r1 : GoodIn wsL_lawB wsX12_swap_r1 := goodIn_r _ [16, 15, 30, 242, 243, 244, 14, 245, 49, 246, 247, 248, 249, 50, 54, 58, 62, 185, 186, 187, 188, 250, 251, 252] (by decide +kernel) (by decide +kernel)
set_option maxRecDepth 20000 in
theorem hL_X12_swap_wsX12_swap_r2 : GoodIn wsL_lawB wsX12_swap_r2 := goodIn_r _ [53, 253, 67, 254, 68, 69, 193, 194, 255, 256, 257, 57, 258, 73, 259, 74, 260, 261, 262, 61, 263, 78, 264, 79] (by decide +kernel) (by decide +kernel)
set_option maxRecDepth 20000 in
theorem hL_X12_swap_wsX12_swap_r3 : GoodIn wsL_lawB wsX12_swap_r3 := goodIn_r _ [80, 204, 520, 521, 522, 523, 409, 372, 286, 373, 487, 359, 2, 360, 361, 269, 270, 271, 272, 273, 29, 274, 104, 105] (by decide +kernel) (by decide +kernel)
set_option maxRecDepth 20000 in
theorem hL_X12_swap_wsX12_swap_r4 : GoodIn wsL_lawB wsX12_swap_r4 := goodIn_r _ [106, 107, 410, 411, 412, 413, 414, 285, 287, 362, 363, 364, 365, 488, 489, 490, 491, 524, 525, 526, 527, 275, 276, 277] (by decide +kernel) (by decide +kernel)
set_option maxRecDepth 20000 in
theorem hL_X12_swap_wsX12_swap_r5 : GoodIn wsL_lawB wsX12_swap_r5 := goodIn_r _ [278, 22, 279, 280, 281, 21, 282, 90, 283, 209, 284, 288] (by decide +kernel) (by decide +kernel)
set_option maxRecDepth 20000 in
theorem hL_X12_swap_wsX120 : GoodIn wsL_lawB wsX120 := goodIn_r _ [1404, 1405, 1406, 1407, 1408, 1409, 1410, 1411, 1412, 1413, 1414] (by decide +kernel) (by decide +kernel)
set_option maxRecDepth 20000 in
theorem hL_X12_swap_wsX60 : GoodIn wsL_lawB wsX60 := goodIn_r _ [1442, 1443, 1444, 1445, 1446, 1447, 1448, 1449, 1450, 1451] (by decide +kernel) (by decide +kernel)
set_option maxRecDepth 20000 in
theorem hL_X12_swap_wsX70 : GoodIn wsL_lawB wsX70 := goodIn_r _ [1475, 1476, 1477, 1478, 1479] (by decide +kernel) (by decide +kernel)
set_option maxRecDepth 20000 in
theorem hL_X12_swap_wsX40 : GoodIn wsL_lawB wsX40 := goodIn_r _ [1480, 1481] (by decide +kernel) (by decide +kernel)
set_option maxRecDepth 20000 in
theorem hL_X12_swap_wsX10 : GoodIn wsL_lawB wsX10 := goodIn_r _ [1482, 1483, 1484, 1485] (by decide +kernel) (by decide +kernel)
set_option maxRecDepth 20000 in
theorem hL_X12_swap_wsX110 : GoodIn wsL_lawB wsX110 := goodIn_r _ [1463, 1464, 1465, 1466] (by decide +kernel) (by decide +kernel)
set_option maxRecDepth 20000 in
theorem hL_X12_swap_wsX50 : GoodIn wsL_lawB wsX50 := goodIn_r _ [1452, 1453, 1454] (by decide +kernel) (by decide +kernel)
set_option maxRecDepth 20000 in
theorem ggL_law_X12_swap : GoodIn wsL_lawB wsX12_swap := goodIn_cons hL_X12_swap_c (goodIn_app (goodIn_app (goodIn_app (goodIn_app (goodIn_app (goodIn_app (goodIn_app (goodIn_app hL_X12_swap_wsX12_swap_r1 (goodIn_app hL_X12_swap_wsX12_swap_r2 (goodIn_app hL_X12_swap_wsX12_swap_r3 (goodIn_app hL_X12_swap_wsX12_swap_r4 hL_X12_swap_wsX12_swap_r5)))) hL_X12_swap_wsX120) hL_X12_swap_wsX60) hL_X12_swap_wsX70) hL_X12_swap_wsX40) hL_X12_swap_wsX10) hL_X12_swap_wsX110) hL_X12_swap_wsX50)
set_option maxRecDepth 20000 in
theorem gL_law_X12_swap : GoodIn wsL_lawB (wsV RL 50 RX12 yX12_swap wsX12_swap) := goodIn_app (goodIn_of _ (by decide +kernel)) ggL_law_X12_swap
set_option maxRecDepth 20000 in
theorem hL_X13_swap_c : GoodIn wsL_lawB [Cond.code yX13_swap cX13_swap 3 (some .int)] := goodIn_r _ [531] (by decide +kernel) (by decide +kernel)
set_option maxRecDepth 20000 in
theorem hL_X13_swap_wsX13_swap_r1 : GoodIn wsL_lawB wsX13_swap_r1 := goodIn_r _ [293, 294, 295, 5, 296, 142, 143, 297, 298, 299, 378, 379, 380, 300, 301, 302, 235, 236, 237, 532, 533, 534, 535, 436] (by decide +kernel) (by decide +kernel)
set_option maxRecDepth 20000 in
theorem hL_X13_swap_wsX13_swap_r2 : GoodIn wsL_lawB wsX13_swap_r2 := goodIn_r _ [437, 438, 439, 385, 386, 387, 388, 310, 311, 312, 313, 148, 149, 440, 441, 442, 443, 444, 445, 446, 447, 448, 449, 450] (by decide +kernel) (by decide +kernel)
set_option maxRecDepth 20000 in
theorem hL_X13_swap_wsX13_swap_r3 : GoodIn wsL_lawB wsX13_swap_r3 := goodIn_r _ [218, 219, 220, 221, 389, 390, 391, 392, 393, 394, 395, 396, 504, 505, 506, 507, 508, 509, 510, 511, 314, 315, 316, 317] (by decide +kernel) (by decide +kernel)
set_option maxRecDepth 20000 in
theorem hL_X13_swap_wsX13_swap_r4 : GoodIn wsL_lawB wsX13_swap_r4 := goodIn_r _ [150, 151, 152, 536, 537, 538, 539, 540, 541, 542, 543, 322, 323, 324, 325, 147, 146] (by decide +kernel) (by decide +kernel)
set_option maxRecDepth 20000 in
theorem hL_X13_swap_wsX130 : GoodIn wsL_lawB wsX130 := goodIn_r _ [1415, 1416, 1417, 1418, 1419, 1420, 1421, 1422, 1423, 1424, 1425, 1426, 1427, 1428, 1429, 1430, 1431, 1432, 1433, 1434, 1435, 1436, 1437, 1438, 1439, 1440, 1441] (by decide +kernel) (by decide +kernel)
set_option maxRecDepth 20000 in
theorem ggL_law_X13_swap : GoodIn wsL_lawB wsX13_swap := goodIn_cons hL_X13_swap_c (goodIn_app (goodIn_app hL_X13_swap_wsX13_swap_r1 (goodIn_app hL_X13_swap_wsX13_swap_r2 (goodIn_app hL_X13_swap_wsX13_swap_r3 hL_X13_swap_wsX13_swap_r4))) hL_X13_swap_wsX130)
set_option maxRecDepth 20000 in
theorem gL_law_X13_swap : GoodIn wsL_lawB (wsV RL 53 RX13 yX13_swap wsX13_swap) := goodIn_app (goodIn_of _ (by decide +kernel)) ggL_law_X13_swap
set_option maxRecDepth 20000 in
theorem hL_X12_day_c : GoodIn wsL_lawB [Cond.code yX12_day cX12_day 1 (some .int)] := goodIn_r _ [547] (by decide +kernel) (by decide +kernel)
set_option maxRecDepth 20000 in
theorem hL_X12_day_wsX12_day_r1 : GoodIn wsL_lawB wsX12_day_r1 := goodIn_r _ [16, 15, 242, 243, 244, 14, 245, 49, 246, 247, 248, 249, 50, 54, 58, 62, 185, 186, 187, 188, 250, 251, 252, 53] (by decide +kernel) (by decide +kernel)
set_option maxRecDepth 20000 in
theorem hL_X12_day_wsX12_day_r2 : GoodIn wsL_lawB wsX12_day_r2 := goodIn_r _ [253, 67, 254, 68, 69, 193, 194, 255, 256, 257, 57, 258, 73, 259, 74, 260, 261, 262, 61, 263, 78, 264, 79, 80] (by decide +kernel) (by decide +kernel)
set_option maxRecDepth 20000 in
theorem hL_X12_day_wsX12_day_r3 : GoodIn wsL_lawB wsX12_day_r3 := goodIn_r _ [204, 548, 549, 550, 551, 63, 552, 553, 554, 555, 556, 557, 558, 559, 560, 561, 562, 199, 82, 83, 84, 275, 276, 277] (by decide +kernel) (by decide +kernel)
set_option maxRecDepth 20000 in
theorem hL_X12_day_wsX12_day_r4 : GoodIn wsL_lawB wsX12_day_r4 := goodIn_r _ [2, 278, 22, 279, 280, 281, 21, 282, 90, 283, 209, 284, 285, 286, 287, 288] (by decide +kernel) (by decide +kernel)
set_option maxRecDepth 20000 in
theorem hL_X12_day_wsX120 : GoodIn wsL_lawB wsX120 := goodIn_r _ [1404, 1405, 1406, 1407, 1408, 1409, 1410, 1411, 1412, 1413, 1414] (by decide +kernel) (by decide +kernel)
set_option maxRecDepth 20000 in
theorem hL_X12_day_wsX60 : GoodIn wsL_lawB wsX60 := goodIn_r _ [1442, 1443, 1444, 1445, 1446, 1447, 1448, 1449, 1450, 1451] (by decide +kernel) (by decide +kernel)
set_option maxRecDepth 20000 in
theorem hL_X12_day_wsX70 : GoodIn wsL_lawB wsX70 := goodIn_r _ [1475, 1476, 1477, 1478, 1479] (by decide +kernel) (by decide +kernel)
set_option maxRecDepth 20000 in
theorem hL_X12_day_wsX40 : GoodIn wsL_lawB wsX40 := goodIn_r _ [1480, 1481] (by decide +kernel) (by decide +kernel)
set_option maxRecDepth 20000 in
theorem hL_X12_day_wsX10 : GoodIn wsL_lawB wsX10 := goodIn_r _ [1482, 1483, 1484, 1485] (by decide +kernel) (by decide +kernel)
set_option maxRecDepth 20000 in
theorem hL_X12_day_wsX50 : GoodIn wsL_lawB wsX50 := goodIn_r _ [1452, 1453, 1454] (by decide +kernel) (by decide +kernel)
set_option maxRecDepth 20000 in
theorem ggL_law_X12_day : GoodIn wsL_lawB wsX12_day := goodIn_cons hL_X12_day_c (goodIn_app (goodIn_app (goodIn_app (goodIn_app (goodIn_app (goodIn_app (goodIn_app hL_X12_day_wsX12_day_r1 (goodIn_app hL_X12_day_wsX12_day_r2 (goodIn_app hL_X12_day_wsX12_day_r3 hL_X12_day_wsX12_day_r4))) hL_X12_day_wsX120) hL_X12_day_wsX60) hL_X12_day_wsX70) hL_X12_day_wsX40) hL_X12_day_wsX10) hL_X12_day_wsX50)
set_option maxRecDepth 20000 in
theorem gL_law_X12_day : GoodIn wsL_lawB (wsV RL 54 RX12 yX12_day wsX12_day) := goodIn_app (goodIn_of _ (by decide +kernel)) ggL_law_X12_day
set_option maxRecDepth 20000 in
theorem hL_X13_day_c : GoodIn wsL_lawB [Cond.code yX13_day cX13_day 1 (some .int)] := goodIn_r _ [566] (by decide +kernel) (by decide +kernel)
set_option maxRecDepth 20000 in
theorem hL_X13_day_wsX13_day_r1 : GoodIn wsL_lawB wsX13_day_r1 := goodIn_r _ [293, 294, 295, 5, 296, 142, 143, 297, 298, 299, 567, 568, 569, 570, 571, 572, 573, 574, 575, 576, 577, 578, 218, 219] (by decide +kernel) (by decide +kernel)
set_option maxRecDepth 20000 in
theorem hL_X13_day_wsX13_day_r2 : GoodIn wsL_lawB wsX13_day_r2 := goodIn_r _ [220, 221, 235, 236, 237, 579, 580, 581, 582, 583, 584, 585, 586, 393, 394, 395, 396, 322, 323, 324, 325, 147, 146] (by decide +kernel) (by decide +kernel)
set_option maxRecDepth 20000 in
theorem hL_X13_day_wsX130 : GoodIn wsL_lawB wsX130 := goodIn_r _ [1415, 1416, 1417, 1418, 1419, 1420, 1421, 1422, 1423, 1424, 1425, 1426, 1427, 1428, 1429, 1430, 1431, 1432, 1433, 1434, 1435, 1436, 1437, 1438, 1439, 1440, 1441] (by decide +kernel) (by decide +kernel)
set_option maxRecDepth 20000 in
theorem ggL_law_X13_day : GoodIn wsL_lawB wsX13_day := goodIn_cons hL_X13_day_c (goodIn_app (goodIn_app hL_X13_day_wsX13_day_r1 hL_X13_day_wsX13_day_r2) hL_X13_day_wsX130)
set_option maxRecDepth 20000 in
theorem gL_law_X13_day : GoodIn wsL_lawB (wsV RL 57 RX13 yX13_day wsX13_day) := goodIn_app (goodIn_of _ (by decide +kernel)) ggL_law_X13_day
set_option maxRecDepth 20000 in
theorem hL_X12_read_c : GoodIn wsL_lawB [Cond.code yX12_read cX12_read 2 (some .int)] := goodIn_r _ [590] (by decide +kernel) (by decide +kernel)
set_option maxRecDepth 20000 in
theorem hL_X12_read_wsX12_read_r1 : GoodIn wsL_lawB wsX12_read_r1 := goodIn_r _ [26, 591, 43, 16, 15, 592, 593, 594, 25, 595, 596, 597, 230, 598, 599, 600, 601, 97, 602, 98, 99, 603, 100, 604] (by decide +kernel) (by decide +kernel)
set_option maxRecDepth 20000 in
theorem hL_X12_read_wsX12_read_r2 : GoodIn wsL_lawB wsX12_read_r2 := goodIn_r _ [605, 606, 607, 608, 609, 372, 286, 373, 610, 611, 612, 613, 96, 614, 615, 616, 617, 618, 619, 620, 621, 622, 623, 624] (by decide +kernel) (by decide +kernel)
set_option maxRecDepth 20000 in
theorem hL_X12_read_wsX12_read_r3 : GoodIn wsL_lawB wsX12_read_r3 := goodIn_r _ [625, 626, 627, 628, 629, 630, 631, 632, 633, 634, 635, 636, 637, 638, 639, 640, 641, 642, 643, 644, 645, 646, 647, 132] (by decide +kernel) (by decide +kernel)
set_option maxRecDepth 20000 in
theorem hL_X12_read_wsX12_read_r4 : GoodIn wsL_lawB wsX12_read_r4 := goodIn_r _ [648, 649, 650, 651, 652, 653, 654, 655, 656, 657, 658, 659, 660, 661, 662, 663, 664, 665, 666, 667, 668, 669, 670, 671] (by decide +kernel) (by decide +kernel)
set_option maxRecDepth 20000 in
theorem hL_X12_read_wsX12_read_r5 : GoodIn wsL_lawB wsX12_read_r5 := goodIn_r _ [672, 673, 674, 675, 676, 677, 242, 243, 244, 14, 245, 49, 246, 247, 248, 249, 50, 54, 58, 62, 185, 186, 187, 188] (by decide +kernel) (by decide +kernel)
set_option maxRecDepth 20000 in
theorem hL_X12_read_wsX12_read_r6 : GoodIn wsL_lawB wsX12_read_r6 := goodIn_r _ [250, 251, 252, 53, 253, 67, 254, 68, 69, 193, 194, 255, 256, 257, 57, 258, 73, 259, 74, 260, 261, 262, 61, 263] (by decide +kernel) (by decide +kernel)
set_option maxRecDepth 20000 in
theorem hL_X12_read_wsX12_read_r7 : GoodIn wsL_lawB wsX12_read_r7 := goodIn_r _ [78, 264, 79, 80, 204, 678, 679, 680, 2, 681, 682, 30, 683, 684, 685, 686, 687, 688, 689, 690, 691, 692, 693, 694] (by decide +kernel) (by decide +kernel)
set_option maxRecDepth 20000 in
theorem hL_X12_read_wsX12_read_r8B : GoodIn wsL_lawB wsX12_read_r8B := goodIn_r _ [695, 696, 697, 698, 699, 265, 266, 267, 268, 269, 270, 271, 272, 273, 29, 274, 104, 105, 106, 107, 330, 331, 332, 333] (by decide +kernel) (by decide +kernel)
set_option maxRecDepth 20000 in
theorem hL_X12_read_wsX12_read_r9 : GoodIn wsL_lawB wsX12_read_r9 := goodIn_r _ [353, 354, 355, 356, 357, 358, 359, 360, 361, 362, 363, 364, 365, 366, 367, 368, 369, 370, 285, 287, 371, 405, 406, 407] (by decide +kernel) (by decide +kernel)
set_option maxRecDepth 20000 in
theorem hL_X12_read_wsX12_read_r10 : GoodIn wsL_lawB wsX12_read_r10 := goodIn_r _ [408, 409, 410, 411, 412, 413, 414, 415, 416, 417, 418, 419, 420, 421, 422, 423, 424, 425, 426, 427, 463, 464, 465, 466] (by decide +kernel) (by decide +kernel)
set_option maxRecDepth 20000 in
theorem hL_X12_read_wsX12_read_r11 : GoodIn wsL_lawB wsX12_read_r11 := goodIn_r _ [483, 484, 485, 486, 487, 488, 489, 490, 491, 492, 493, 494, 495, 520, 521, 522, 523, 524, 525, 526, 527, 548, 549, 550] (by decide +kernel) (by decide +kernel)
set_option maxRecDepth 20000 in
theorem hL_X12_read_wsX12_read_r12 : GoodIn wsL_lawB wsX12_read_r12 := goodIn_r _ [551, 63, 552, 553, 554, 555, 556, 557, 558, 559, 560, 561, 562, 199, 82, 83, 84, 700, 701, 702, 703, 704, 275, 276] (by decide +kernel) (by decide +kernel)
set_option maxRecDepth 20000 in
theorem hL_X12_read_wsX12_read_r13 : GoodIn wsL_lawB wsX12_read_r13 := goodIn_r _ [277, 278, 22, 279, 280, 281, 21, 282, 90, 283, 209, 284, 288] (by decide +kernel) (by decide +kernel)
set_option maxRecDepth 20000 in
theorem hL_X12_read_wsX120 : GoodIn wsL_lawB wsX120 := goodIn_r _ [1404, 1405, 1406, 1407, 1408, 1409, 1410, 1411, 1412, 1413, 1414] (by decide +kernel) (by decide +kernel)
set_option maxRecDepth 20000 in
theorem hL_X12_read_wsX100 : GoodIn wsL_lawB wsX100 := goodIn_r _ [1455, 1456, 1457, 1458, 1459, 1460, 1461, 1462] (by decide +kernel) (by decide +kernel)
set_option maxRecDepth 20000 in
theorem hL_X12_read_wsX60 : GoodIn wsL_lawB wsX60 := goodIn_r _ [1442, 1443, 1444, 1445, 1446, 1447, 1448, 1449, 1450, 1451] (by decide +kernel) (by decide +kernel)
set_option maxRecDepth 20000 in
theorem hL_X12_read_wsX70 : GoodIn wsL_lawB wsX70 := goodIn_r _ [1475, 1476, 1477, 1478, 1479] (by decide +kernel) (by decide +kernel)
set_option maxRecDepth 20000 in
theorem hL_X12_read_wsX40 : GoodIn wsL_lawB wsX40 := goodIn_r _ [1480, 1481] (by decide +kernel) (by decide +kernel)
set_option maxRecDepth 20000 in
theorem hL_X12_read_wsX10 : GoodIn wsL_lawB wsX10 := goodIn_r _ [1482, 1483, 1484, 1485] (by decide +kernel) (by decide +kernel)
set_option maxRecDepth 20000 in
theorem hL_X12_read_wsX110 : GoodIn wsL_lawB wsX110 := goodIn_r _ [1463, 1464, 1465, 1466] (by decide +kernel) (by decide +kernel)
set_option maxRecDepth 20000 in
theorem hL_X12_read_wsX50 : GoodIn wsL_lawB wsX50 := goodIn_r _ [1452, 1453, 1454] (by decide +kernel) (by decide +kernel)
set_option maxRecDepth 20000 in
theorem ggL_law_X12_read : GoodIn wsL_lawB wsX12_readB := goodIn_cons hL_X12_read_c (goodIn_app (goodIn_app (goodIn_app (goodIn_app (goodIn_app (goodIn_app (goodIn_app (goodIn_app (goodIn_app hL_X12_read_wsX12_read_r1 (goodIn_app hL_X12_read_wsX12_read_r2 (goodIn_app hL_X12_read_wsX12_read_r3 (goodIn_app hL_X12_read_wsX12_read_r4 (goodIn_app hL_X12_read_wsX12_read_r5 (goodIn_app hL_X12_read_wsX12_read_r6 (goodIn_app hL_X12_read_wsX12_read_r7 (goodIn_app hL_X12_read_wsX12_read_r8B (goodIn_app hL_X12_read_wsX12_read_r9 (goodIn_app hL_X12_read_wsX12_read_r10 (goodIn_app hL_X12_read_wsX12_read_r11 (goodIn_app hL_X12_read_wsX12_read_r12 hL_X12_read_wsX12_read_r13)))))))))))) hL_X12_read_wsX120) hL_X12_read_wsX100) hL_X12_read_wsX60) hL_X12_read_wsX70) hL_X12_read_wsX40) hL_X12_read_wsX10) hL_X12_read_wsX110) hL_X12_read_wsX50)
set_option maxRecDepth 20000 in
theorem gL_law_X12_read : GoodIn wsL_lawB (wsV RL 58 RX12 yX12_read wsX12_readB) := goodIn_app (goodIn_of _ (by decide +kernel)) ggL_law_X12_read
set_option maxRecDepth 20000 in
theorem hL_X13_read_c : GoodIn wsL_lawB [Cond.code yX13_read cX13_read 2 (some .int)] := goodIn_r _ [708] (by decide +kernel) (by decide +kernel)
set_option maxRecDepth 20000 in
theorem hL_X13_read_wsX13_read_r1 : GoodIn wsL_lawB wsX13_read_r1 := goodIn_r _ [167, 165, 154, 166, 143, 142, 168, 148, 152, 149, 153, 150, 151, 293, 294, 295, 5, 296, 297, 298, 299, 709, 710, 711] (by decide +kernel) (by decide +kernel)
set_option maxRecDepth 20000 in
theorem hL_X13_read_wsX13_read_r2 : GoodIn wsL_lawB wsX13_read_r2 := goodIn_r _ [712, 163, 164, 713, 714, 715, 716, 161, 162, 717, 718, 719, 720, 160, 721, 722, 723, 724, 725, 726, 727, 728, 729, 730] (by decide +kernel) (by decide +kernel)
set_option maxRecDepth 20000 in
theorem hL_X13_read_wsX13_read_r3 : GoodIn wsL_lawB wsX13_read_r3 := goodIn_r _ [731, 732, 733, 734, 735, 736, 737, 738, 235, 236, 237, 739, 740, 741, 742, 300, 301, 302, 303, 304, 305, 743, 744, 745] (by decide +kernel) (by decide +kernel)
set_option maxRecDepth 20000 in
theorem hL_X13_read_wsX13_read_r4 : GoodIn wsL_lawB wsX13_read_r4 := goodIn_r _ [746, 306, 307, 308, 309, 218, 219, 220, 221, 310, 311, 312, 313, 318, 319, 320, 321, 338, 339, 340, 341, 342, 343, 344] (by decide +kernel) (by decide +kernel)
set_option maxRecDepth 20000 in
theorem hL_X13_read_wsX13_read_r5 : GoodIn wsL_lawB wsX13_read_r5 := goodIn_r _ [345, 346, 347, 348, 378, 379, 380, 381, 382, 383, 384, 385, 386, 387, 388, 389, 390, 391, 392, 393, 394, 395, 396, 397] (by decide +kernel) (by decide +kernel)
set_option maxRecDepth 20000 in
theorem hL_X13_read_wsX13_read_r6 : GoodIn wsL_lawB wsX13_read_r6 := goodIn_r _ [398, 399, 400, 432, 433, 434, 435, 436, 437, 438, 439, 440, 441, 442, 443, 444, 445, 446, 447, 448, 449, 450, 451, 452] (by decide +kernel) (by decide +kernel)
set_option maxRecDepth 20000 in
theorem hL_X13_read_wsX13_read_r7 : GoodIn wsL_lawB wsX13_read_r7 := goodIn_r _ [453, 454, 455, 456, 457, 458, 471, 472, 473, 474, 475, 476, 477, 478, 500, 501, 502, 503, 504, 505, 506, 507, 508, 509] (by decide +kernel) (by decide +kernel)
set_option maxRecDepth 20000 in
theorem hL_X13_read_wsX13_read_r8 : GoodIn wsL_lawB wsX13_read_r8 := goodIn_r _ [510, 511, 512, 513, 514, 515, 532, 533, 534, 535, 536, 537, 538, 539, 540, 541, 542, 543, 567, 568, 569, 570, 571, 572] (by decide +kernel) (by decide +kernel)
set_option maxRecDepth 20000 in
theorem hL_X13_read_wsX13_read_r9 : GoodIn wsL_lawB wsX13_read_r9 := goodIn_r _ [573, 574, 575, 576, 577, 578, 579, 580, 581, 582, 583, 584, 585, 586, 322, 323, 324, 325, 147, 146] (by decide +kernel) (by decide +kernel)
set_option maxRecDepth 20000 in
theorem hL_X13_read_wsX130 : GoodIn wsL_lawB wsX130 := goodIn_r _ [1415, 1416, 1417, 1418, 1419, 1420, 1421, 1422, 1423, 1424, 1425, 1426, 1427, 1428, 1429, 1430, 1431, 1432, 1433, 1434, 1435, 1436, 1437, 1438, 1439, 1440, 1441] (by decide +kernel) (by decide +kernel)
set_option maxRecDepth 20000 in
theorem ggL_law_X13_read : GoodIn wsL_lawB wsX13_read := goodIn_cons hL_X13_read_c (goodIn_app (goodIn_app hL_X13_read_wsX13_read_r1 (goodIn_app hL_X13_read_wsX13_read_r2 (goodIn_app hL_X13_read_wsX13_read_r3 (goodIn_app hL_X13_read_wsX13_read_r4 (goodIn_app hL_X13_read_wsX13_read_r5 (goodIn_app hL_X13_read_wsX13_read_r6 (goodIn_app hL_X13_read_wsX13_read_r7 (goodIn_app hL_X13_read_wsX13_read_r8 hL_X13_read_wsX13_read_r9)))))))) hL_X13_read_wsX130)
set_option maxRecDepth 20000 in
theorem gL_law_X13_read : GoodIn wsL_lawB (wsV RL 61 RX13 yX13_read wsX13_read) := goodIn_app (goodIn_of _ (by decide +kernel)) ggL_law_X13_read
set_option maxRecDepth 20000 in
theorem ggL_law_X12_fault : GoodIn wsL_lawB wsX12_fault := goodIn_r _ [750, 43, 1404, 1405, 1406, 1407, 1408, 1409, 1410, 1411, 1412, 1413, 1414] (by decide +kernel) (by decide +kernel)
set_option maxRecDepth 20000 in
theorem gL_law_X12_fault : GoodIn wsL_lawB (wsV RL 62 RX12 yX12_fault wsX12_fault) := goodIn_app (goodIn_of _ (by decide +kernel)) ggL_law_X12_fault
set_option maxRecDepth 20000 in
theorem ggL_law_X13_fault : GoodIn wsL_lawB wsX13_fault := goodIn_r _ [754, 154, 1415, 1416, 1417, 1418, 1419, 1420, 1421, 1422, 1423, 1424, 1425, 1426, 1427, 1428, 1429, 1430, 1431, 1432, 1433, 1434, 1435, 1436, 1437, 1438, 1439, 1440, 1441] (by decide +kernel) (by decide +kernel)
set_option maxRecDepth 20000 in
theorem gL_law_X13_fault : GoodIn wsL_lawB (wsV RL 65 RX13 yX13_fault wsX13_fault) := goodIn_app (goodIn_of _ (by decide +kernel)) ggL_law_X13_fault
set_option maxRecDepth 20000 in
theorem ggL_law_X12_reason : GoodIn wsL_lawB wsX12_reason := goodIn_r _ [758, 30, 759, 760, 761, 762, 1404, 1405, 1406, 1407, 1408, 1409, 1410, 1411, 1412, 1413, 1414, 1463, 1464, 1465, 1466] (by decide +kernel) (by decide +kernel)
set_option maxRecDepth 20000 in
theorem gL_law_X12_reason : GoodIn wsL_lawB (wsV RL 66 RX12 yX12_reason wsX12_reason) := goodIn_app (goodIn_of _ (by decide +kernel)) ggL_law_X12_reason
set_option maxRecDepth 20000 in
theorem ggL_law_X13_reason : GoodIn wsL_lawB wsX13_reason := goodIn_r _ [766, 152, 150, 153, 151, 235, 236, 5, 237, 1415, 1416, 1417, 1418, 1419, 1420, 1421, 1422, 1423, 1424, 1425, 1426, 1427, 1428, 1429, 1430, 1431, 1432, 1433, 1434, 1435, 1436, 1437, 1438, 1439, 1440, 1441] (by decide +kernel) (by decide +kernel)
set_option maxRecDepth 20000 in
theorem gL_law_X13_reason : GoodIn wsL_lawB (wsV RL 70 RX13 yX13_reason wsX13_reason) := goodIn_app (goodIn_of _ (by decide +kernel)) ggL_law_X13_reason
