/-! The words of the law among the tables'. -/
theorem in_r {big : List Cond} (ws : List Cond) (ps : List Nat) (hp : ws = ps.filterMap (fun i => big[i]?)) : ∀ w ∈ ws, w ∈ big := by
  intro w hw
  rw [hp] at hw
  obtain ⟨i, -, hi⟩ := List.mem_filterMap.mp hw
  first | exact List.mem_of_getElem? hi | exact List.getElem?_mem hi
theorem all_app {a b big : List Cond} (ha : ∀ w ∈ a, w ∈ big) (hb : ∀ w ∈ b, w ∈ big) : ∀ w ∈ a ++ b, w ∈ big := fun w h => (List.mem_append.mp h).elim (ha w) (hb w)
/-- a private method of a superclass that is no interface, selected for its subclass -/
theorem k3_sel {C : String} {y z : MethodName} {s : State} {args : Array Value} {n : Nat} (hy : y.cls ≠ "java/lang/invoke/MethodHandle" ∧ y.cls ≠ "java/lang/invoke/VarHandle")
    (hins : (Cond.instantiable C n).before args s = true) (hpriv : (Cond.privateMethod y).before args s = true) (hinst : (Cond.instanceMethod y).before args s = true) (hz : (Cond.selects C z z).before args s = true) (hcl : z.cls = y.cls) : (Cond.selects C y y).before args s = true := by
  obtain ⟨c, k, hc, hk, -, hniab, -, -⟩ := Cond.instantiable_spec hins
  obtain ⟨mk, methM, hnamed, hmethM, -, -⟩ := Cond.instanceMethod_spec hinst
  have hfound : s.methodFound? y.cls y.name y.desc = some mk := State.methodFound?_of_named hnamed hy
  obtain ⟨c2, r2, m2, q1, q2, q3, q4, kk, q5, q6⟩ := Cond.selects_spec hz
  have hcls : m2.cls = mk.cls := by
    have h1 := findClass_of_methodNamed q3
    have h2 := findClass_of_methodNamed hnamed
    rw [hcl] at h1
    exact Option.some.inj (h1.symm.trans h2)
  rw [hcls] at q5
  have hsel : selectMethod {} s.vm c mk = .method mk := selectMethod_private hmethM (Cond.privateMethod_at hpriv mk methM hnamed hmethM)
  simp only [Cond.before, Cond.holds, Cond.value, hc, hfound, hnamed, hsel, q5]
  simp; exact q6
def lw_sel3 : List Cond := [Cond.selects RJ4 yJ5_ensureCapacityInternal_d00df yJ5_ensureCapacityInternal_d00df, Cond.selects RJ4 yJ5_newCapacity_0f7a4 yJ5_newCapacity_0f7a4, Cond.selects RJ4 yJ5_inflate_da8c8 yJ5_inflate_da8c8]
def lw_tblX : List Cond := lw_tbl ++ lw_sel3
set_option maxRecDepth 20000 in
theorem wr_1 : ∀ w ∈ wsL_law_r1, w ∈ lw_tblX := in_r _ [106, 107, 81, 1138, 1139, 96, 108, 109, 110, 111, 112, 113, 114, 115, 82, 378, 379, 380, 381, 236, 237, 87, 382, 256] (by decide +kernel)
set_option maxRecDepth 20000 in
theorem wr_2 : ∀ w ∈ wsL_law_r2, w ∈ lw_tblX := in_r _ [257, 88, 383, 295, 296, 89, 384, 318, 319, 90, 385, 333, 334, 91, 386, 346, 347, 93, 387, 388, 116, 117, 118, 119] (by decide +kernel)
set_option maxRecDepth 20000 in
theorem wr_3 : ∀ w ∈ wsL_law_r3, w ∈ lw_tblX := in_r _ [152, 193, 196, 120, 121, 83, 199, 153, 154, 84, 202, 166, 167, 85, 204, 206, 123, 124, 125, 126, 129, 132, 156, 157] (by decide +kernel)
set_option maxRecDepth 20000 in
theorem wr_4 : ∀ w ∈ wsL_law_r4, w ∈ lw_tblX := in_r _ [158, 159, 160, 169, 170, 171, 172, 174, 176, 190, 191, 86, 192, 238, 239, 240, 241, 242, 245, 244, 259, 260, 261, 294] (by decide +kernel)
set_option maxRecDepth 20000 in
theorem wr_5 : ∀ w ∈ wsL_law_r5, w ∈ lw_tblX := in_r _ [262, 267, 269, 271, 273, 298, 299, 300, 301, 303, 305, 307, 321, 322, 323, 324, 326, 336, 337, 338, 339, 340, 348, 349] (by decide +kernel)
set_option maxRecDepth 20000 in
theorem wr_6 : ∀ w ∈ wsL_law_r6, w ∈ lw_tblX := in_r _ [350, 351, 352, 92, 353, 354, 355, 377, 364, 365, 357, 358, 95, 359, 360, 361, 362, 363, 1140, 1141, 1142, 1143, 1148, 1149] (by decide +kernel)
set_option maxRecDepth 20000 in
theorem wr_7 : ∀ w ∈ wsL_law_r7, w ∈ lw_tblX := in_r _ [1150, 1151, 1152, 1153, 1154, 1155, 1156, 1157, 1158, 1159, 1160, 1161, 1162, 1163, 1164, 1165, 1166, 1167, 1168, 1169, 1170, 1171, 1172, 1173] (by decide +kernel)
set_option maxRecDepth 20000 in
theorem wr_8 : ∀ w ∈ wsL_law_r8, w ∈ lw_tblX := in_r _ [1174, 1144, 1146, 18, 1147, 412, 413, 414, 415, 416, 417, 418, 419, 420, 421, 422, 423, 207, 209, 211, 213, 424, 425, 426] (by decide +kernel)
set_option maxRecDepth 20000 in
theorem wr_9 : ∀ w ∈ wsL_law_r9, w ∈ lw_tblX := in_r _ [427, 135, 139, 428, 429, 430, 431, 432, 433, 434, 435, 436, 178, 437, 438, 439, 440, 247, 1230, 1231, 1232, 1233, 1234, 1236] (by decide +kernel)
set_option maxRecDepth 20000 in
theorem wr_10 : ∀ w ∈ wsL_law_r10, w ∈ lw_tblX := in_r _ [19, 1237, 1238, 1240, 20, 1241, 441, 442, 443, 444, 445, 446, 447, 448, 263, 1603, 1604, 1605, 1606, 1256, 1257, 1258, 449, 450] (by decide +kernel)
set_option maxRecDepth 20000 in
theorem wr_11 : ∀ w ∈ wsL_law_r11, w ∈ lw_tblX := in_r _ [451, 452, 453, 454, 455, 456, 457, 459, 458, 97, 460, 461, 462, 463, 464, 465, 466, 467, 468, 469, 470, 471, 472, 473] (by decide +kernel)
set_option maxRecDepth 20000 in
theorem wr_12 : ∀ w ∈ wsL_law_r12, w ∈ lw_tblX := in_r _ [474, 475, 476, 477, 478, 480, 481, 482, 483, 484, 485, 486, 488, 0, 489, 490, 491, 492, 493, 246, 495, 496, 98, 497] (by decide +kernel)
set_option maxRecDepth 20000 in
theorem wr_13 : ∀ w ∈ wsL_law_r13, w ∈ lw_tblX := in_r _ [494, 1242, 1243, 1244, 1245, 1246, 1248, 21, 1249, 1250, 1251, 1252, 1253, 1254, 1255, 1259, 1260, 1261, 1262, 1264, 22, 1265, 1266, 1268] (by decide +kernel)
set_option maxRecDepth 20000 in
theorem wr_14 : ∀ w ∈ wsL_law_r14, w ∈ lw_tblX := in_r _ [23, 1269, 1270, 1272, 24, 1273, 1274, 1276, 25, 1277, 1278, 1280, 26, 1281, 498, 499, 500, 501, 502, 503, 504, 505, 1282, 1283] (by decide +kernel)
set_option maxRecDepth 20000 in
theorem wr_15 : ∀ w ∈ wsL_law_r15, w ∈ lw_tblX := in_r _ [1284, 1285, 1286, 1287, 1288, 1289, 1291, 27, 1292, 1293, 1295, 28, 1296, 506, 507, 508, 509, 510, 511, 512, 513, 133, 137, 515] (by decide +kernel)
set_option maxRecDepth 20000 in
theorem wr_16 : ∀ w ∈ wsL_law_r16, w ∈ lw_tblX := in_r _ [516, 517, 518, 519, 520, 521, 522, 523, 524, 525, 526, 527, 528, 529, 1297, 1298, 1299, 1300, 1301, 1302, 1303, 1304, 1306, 29] (by decide +kernel)
set_option maxRecDepth 20000 in
theorem wr_17 : ∀ w ∈ wsL_law_r17, w ∈ lw_tblX := in_r _ [1307, 1308, 1310, 30, 1311, 1312, 1314, 31, 1315, 1316, 1318, 32, 1319, 1320, 1322, 33, 1323, 530, 531, 532, 533, 534, 535, 536] (by decide +kernel)
set_option maxRecDepth 20000 in
theorem wr_18 : ∀ w ∈ wsL_law_r18, w ∈ lw_tblX := in_r _ [537, 542, 538, 539, 540, 541, 543, 544, 545, 546, 547, 548, 549, 550, 551, 552, 553, 554, 555, 556, 1324, 1325, 1326, 1327] (by decide +kernel)
set_option maxRecDepth 20000 in
theorem wr_19 : ∀ w ∈ wsL_law_r19, w ∈ lw_tblX := in_r _ [1328, 1330, 34, 1331, 1332, 1334, 35, 1335, 1336, 1338, 36, 1339, 1340, 1342, 37, 1343, 1344, 1345, 1346, 1347, 1349, 38, 1350, 1351] (by decide +kernel)
set_option maxRecDepth 20000 in
theorem wr_20 : ∀ w ∈ wsL_law_r20, w ∈ lw_tblX := in_r _ [1353, 39, 1354, 557, 558, 559, 560, 561, 562, 563, 564, 1355, 1356, 1357, 1358, 1359, 1361, 40, 1362, 1363, 1365, 41, 1366, 565] (by decide +kernel)
set_option maxRecDepth 20000 in
theorem wr_21 : ∀ w ∈ wsL_law_r21, w ∈ lw_tblX := in_r _ [566, 567, 568, 569, 570, 571, 572, 179, 573, 574, 575, 576, 577, 578, 579, 580, 1367, 1368, 1369, 1370, 1371, 1373, 42, 1374] (by decide +kernel)
set_option maxRecDepth 20000 in
theorem wr_22 : ∀ w ∈ wsL_law_r22, w ∈ lw_tblX := in_r _ [1375, 1377, 43, 1378, 1379, 1381, 44, 1382, 1383, 1385, 45, 1386, 581, 582, 583, 584, 585, 586, 587, 588, 589, 590, 591, 592] (by decide +kernel)
set_option maxRecDepth 20000 in
theorem wr_23 : ∀ w ∈ wsL_law_r23, w ∈ lw_tblX := in_r _ [1387, 1388, 1389, 1390, 1391, 1393, 46, 1394, 1395, 1397, 47, 1398, 1399, 1401, 48, 1402, 593, 594, 595, 596, 597, 598, 599, 600] (by decide +kernel)
set_option maxRecDepth 20000 in
theorem wr_24 : ∀ w ∈ wsL_law_r24, w ∈ lw_tblX := in_r _ [601, 602, 603, 604, 605, 606, 607, 608, 609, 610, 611, 1403, 1404, 1405, 1406, 1407, 1409, 49, 1410, 1411, 1413, 50, 1414, 1415] (by decide +kernel)
set_option maxRecDepth 20000 in
theorem wr_25 : ∀ w ∈ wsL_law_r25, w ∈ lw_tblX := in_r _ [1417, 51, 1418, 1419, 1421, 52, 1422, 1423, 1425, 53, 1426, 612, 613, 614, 615, 266, 616, 617, 618, 619, 265, 275, 620, 622] (by decide +kernel)
set_option maxRecDepth 20000 in
theorem wr_26 : ∀ w ∈ wsL_law_r26, w ∈ lw_tblX := in_r _ [1, 623, 1680, 1681, 624, 626, 2, 627, 1677, 681, 630, 632, 3, 633, 634, 635, 636, 94, 637, 1678, 638, 639, 640, 641] (by decide +kernel)
set_option maxRecDepth 20000 in
theorem wr_27 : ∀ w ∈ wsL_law_r27, w ∈ lw_tblX := in_r _ [642, 1679, 643, 644, 645, 646, 647, 648, 649, 650, 651, 652, 99, 653, 654, 655, 656, 657, 659, 660, 100, 661, 662, 663] (by decide +kernel)
set_option maxRecDepth 20000 in
theorem wr_28 : ∀ w ∈ wsL_law_r28, w ∈ lw_tblX := in_r _ [664, 665, 666, 667, 668, 669, 670, 671, 672, 673, 674, 675, 677, 679, 682, 684, 4, 685, 686, 688, 5, 689, 690, 692] (by decide +kernel)
set_option maxRecDepth 20000 in
theorem wr_29 : ∀ w ∈ wsL_law_r29, w ∈ lw_tblX := in_r _ [6, 693, 694, 695, 696, 697, 698, 700, 7, 701, 276, 702, 704, 8, 705, 270, 272, 274, 706, 708, 268, 709, 710, 712] (by decide +kernel)
def wsL_law_r30B : List Cond := [Cond.instanceMethod yJx29ce0_ordinal_8abf5, Cond.initialized RX12, Cond.code yJx29ce0_ordinal_8abf5 cJx29ce0_ordinal_8abf5 1 (some .int), Cond.fieldLink RJx29ce0 7 "java/lang/Enum" "ordinal" "I", Cond.methodLink RX12 358 yX11_cover, Cond.instanceMethod yX11_cover, Cond.selects RX11 yX11_cover yX11_cover, Cond.code yX11_cover cX11_cover 3 (some .int), Cond.methodLink RX12 361 yX11_note, Cond.methodLink RL 61 yX13_read, Cond.instanceMethod yX13_read, Cond.selects RX13 yX13_read yX13_read, Cond.code yX13_read cX13_read 2 (some .int), Cond.methodLink RX13 317 yX13_reads, Cond.instanceMethod yX13_reads, Cond.selects RX13 yX13_reads yX13_reads, Cond.code yX13_reads cX13_reads 1 none, Cond.methodLink RX13 310 yX13_command, Cond.instanceMethod yX13_command, Cond.selects RX13 yX13_command yX13_command, Cond.code yX13_command cX13_command 5 none, Cond.methodLink RX13 304 yX13_kindHere, Cond.instanceMethod yX13_kindHere, Cond.selects RX13 yX13_kindHere yX13_kindHere]
set_option maxRecDepth 20000 in
theorem wr_30 : ∀ w ∈ wsL_law_r30B, w ∈ lw_tblX := in_r _ [713, 81, 714, 1682, 715, 716, 717, 718, 719, 1607, 1608, 1609, 1610, 1611, 1613, 72, 1614, 1615, 1617, 73, 1618, 1619, 1621, 74] (by decide +kernel)
set_option maxRecDepth 20000 in
theorem wr_31 : ∀ w ∈ wsL_law_r31, w ∈ lw_tblX := in_r _ [1622, 1623, 1624, 1625, 1626, 1627, 1628, 1629, 1631, 75, 1632, 1633, 1635, 76, 1636, 1637, 1639, 77, 1640, 1641, 1643, 78, 1644, 1645] (by decide +kernel)
set_option maxRecDepth 20000 in
theorem wr_32 : ∀ w ∈ wsL_law_r32, w ∈ lw_tblX := in_r _ [1647, 79, 1648, 720, 721, 722, 723, 1649, 1650, 1651, 1652, 724, 725, 726, 727, 304, 302, 308, 306, 1653, 1654, 1655, 1656, 728] (by decide +kernel)
set_option maxRecDepth 20000 in
theorem wr_33 : ∀ w ∈ wsL_law_r33, w ∈ lw_tblX := in_r _ [729, 730, 731, 195, 198, 205, 203, 201, 732, 733, 734, 102, 735, 736, 737, 738, 739, 740, 741, 742, 743, 744, 745, 746] (by decide +kernel)
set_option maxRecDepth 20000 in
theorem wr_34 : ∀ w ∈ wsL_law_r34, w ∈ lw_tblX := in_r _ [747, 748, 749, 750, 751, 752, 1427, 1428, 1429, 1430, 1431, 1433, 54, 1434, 1435, 1437, 55, 1438, 1439, 1441, 56, 1442, 1443, 1445] (by decide +kernel)
set_option maxRecDepth 20000 in
theorem wr_35 : ∀ w ∈ wsL_law_r35, w ∈ lw_tblX := in_r _ [57, 1446, 1447, 1449, 58, 1450, 753, 754, 755, 756, 757, 758, 1451, 1452, 1453, 1454, 759, 760, 761, 762, 763, 1455, 1456, 1457] (by decide +kernel)
set_option maxRecDepth 20000 in
theorem wr_36 : ∀ w ∈ wsL_law_r36, w ∈ lw_tblX := in_r _ [1458, 764, 765, 766, 767, 180, 173, 175, 177, 325, 768, 769, 770, 771, 772, 773, 775, 9, 776, 777, 778, 779, 780, 781] (by decide +kernel)
set_option maxRecDepth 20000 in
theorem wr_37 : ∀ w ∈ wsL_law_r37, w ∈ lw_tblX := in_r _ [782, 783, 1459, 1460, 1461, 1462, 1463, 1465, 59, 1466, 1467, 1469, 60, 1470, 1471, 1473, 61, 1474, 1475, 1476, 1477, 784, 785, 786] (by decide +kernel)
set_option maxRecDepth 20000 in
theorem wr_38 : ∀ w ∈ wsL_law_r38, w ∈ lw_tblX := in_r _ [787, 138, 128, 131, 134, 1478, 1479, 1480, 1481, 788, 789, 790, 791, 792, 793, 794, 1482, 1483, 1484, 1485, 1486, 1488, 62, 1489] (by decide +kernel)
set_option maxRecDepth 20000 in
theorem wr_39 : ∀ w ∈ wsL_law_r39, w ∈ lw_tblX := in_r _ [795, 796, 797, 798, 799, 800, 801, 200, 802, 803, 804, 194, 197, 805, 806, 807, 136, 127, 130, 1490, 1491, 1492, 1493, 808] (by decide +kernel)
set_option maxRecDepth 20000 in
theorem wr_40 : ∀ w ∈ wsL_law_r40, w ∈ lw_tblX := in_r _ [809, 810, 811, 812, 813, 814, 820, 815, 816, 817, 819, 818, 1494, 1495, 1496, 1497, 1498, 1500, 63, 1501, 1502, 1504, 64, 1505] (by decide +kernel)
set_option maxRecDepth 20000 in
theorem wr_41 : ∀ w ∈ wsL_law_r41, w ∈ lw_tblX := in_r _ [821, 822, 823, 824, 825, 826, 827, 828, 829, 830, 1506, 1507, 1508, 1509, 831, 832, 833, 834, 835, 836, 837, 838, 839, 1510] (by decide +kernel)
set_option maxRecDepth 20000 in
theorem wr_42 : ∀ w ∈ wsL_law_r42, w ∈ lw_tblX := in_r _ [1511, 1512, 1513, 1514, 1516, 65, 1517, 840, 841, 842, 843, 844, 845, 846, 847, 848, 1518, 1519, 1520, 1521, 849, 850, 851, 852] (by decide +kernel)
set_option maxRecDepth 20000 in
theorem wr_43 : ∀ w ∈ wsL_law_r43, w ∈ lw_tblX := in_r _ [1522, 1523, 1524, 1525, 853, 854, 855, 856, 327, 857, 858, 859, 860, 861, 863, 10, 864, 1526, 1527, 1528, 1529, 865, 866, 867] (by decide +kernel)
set_option maxRecDepth 20000 in
theorem wr_44 : ∀ w ∈ wsL_law_r44, w ∈ lw_tblX := in_r _ [868, 869, 870, 871, 872, 873, 874, 876, 11, 877, 1530, 1531, 1532, 1533, 1534, 1536, 66, 1537, 878, 879, 880, 881, 882, 883] (by decide +kernel)
set_option maxRecDepth 20000 in
theorem wr_45 : ∀ w ∈ wsL_law_r45, w ∈ lw_tblX := in_r _ [884, 885, 886, 888, 12, 889, 890, 892, 13, 893, 894, 1538, 1539, 1540, 1541, 895, 896, 897, 898, 1542, 1543, 1544, 1545, 899] (by decide +kernel)
set_option maxRecDepth 20000 in
theorem wr_46 : ∀ w ∈ wsL_law_r46, w ∈ lw_tblX := in_r _ [900, 901, 902, 903, 904, 905, 906, 907, 908, 909, 910, 911, 913, 14, 914, 915, 917, 15, 918, 1546, 1547, 1548, 1549, 1550] (by decide +kernel)
set_option maxRecDepth 20000 in
theorem wr_47 : ∀ w ∈ wsL_law_r47, w ∈ lw_tblX := in_r _ [1552, 67, 1553, 919, 920, 921, 922, 1554, 1555, 1556, 1557, 1558, 1560, 68, 1561, 923, 924, 925, 926, 927, 928, 929, 930, 931] (by decide +kernel)
set_option maxRecDepth 20000 in
theorem wr_48 : ∀ w ∈ wsL_law_r48, w ∈ lw_tblX := in_r _ [1669, 376, 932, 933, 367, 366, 934, 1670, 1699, 936, 937, 938, 1671, 1700, 940, 941, 950, 942, 943, 103, 944, 945, 946, 947] (by decide +kernel)
set_option maxRecDepth 20000 in
theorem wr_49 : ∀ w ∈ wsL_law_r49, w ∈ lw_tblX := in_r _ [948, 949, 951, 952, 953, 954, 955, 956, 957, 958, 960, 961, 962, 963, 965, 966, 964, 967, 968, 969, 970, 971, 972, 973] (by decide +kernel)
set_option maxRecDepth 20000 in
theorem wr_50 : ∀ w ∈ wsL_law_r50, w ∈ lw_tblX := in_r _ [974, 975, 976, 977, 978, 979, 980, 981, 982, 983, 984, 985, 1672, 986, 987, 988, 989, 990, 991, 1673, 1701, 993, 994, 995] (by decide +kernel)
set_option maxRecDepth 20000 in
theorem wr_51 : ∀ w ∈ wsL_law_r51, w ∈ lw_tblX := in_r _ [996, 997, 998, 999, 1000, 1001, 1002, 1003, 1004, 1005, 1006, 1007, 1008, 1009, 1010, 1011, 1012, 1013, 1014, 1015, 1016, 1018, 16, 1019] (by decide +kernel)
set_option maxRecDepth 20000 in
theorem wr_52 : ∀ w ∈ wsL_law_r52, w ∈ lw_tblX := in_r _ [1020, 1021, 1022, 1023, 1024, 1674, 1025, 1026, 1027, 1028, 105, 1029, 1030, 1031, 1032, 1033, 1035, 1037, 1038, 1039, 1040, 1041, 1042, 1043] (by decide +kernel)
set_option maxRecDepth 20000 in
theorem wr_53 : ∀ w ∈ wsL_law_r53, w ∈ lw_tblX := in_r _ [1044, 1045, 1046, 1047, 1048, 1049, 1050, 1051, 1052, 1053, 1054, 1055, 1056, 1057, 1058, 1675, 1059, 1060, 1562, 1563, 1564, 1565, 1566, 1568] (by decide +kernel)
set_option maxRecDepth 20000 in
theorem wr_54 : ∀ w ∈ wsL_law_r54, w ∈ lw_tblX := in_r _ [69, 1569, 1570, 1572, 70, 1573, 1061, 1062, 1063, 1064, 1574, 1575, 1576, 1577, 1065, 1066, 1067, 1068, 1069, 1070, 1071, 1072, 1073, 1676] (by decide +kernel)
set_option maxRecDepth 20000 in
theorem wr_55 : ∀ w ∈ wsL_law_r55, w ∈ lw_tblX := in_r _ [1074, 1075, 1076, 1077, 1078, 1578, 1579, 1580, 1581, 1079, 1080, 1081, 1082, 1083, 1084, 1085, 1086, 1087, 1088, 1089, 1091, 17, 1092, 1093] (by decide +kernel)
set_option maxRecDepth 20000 in
theorem wr_56 : ∀ w ∈ wsL_law_r56, w ∈ lw_tblX := in_r _ [1094, 1095, 1096, 1097, 1098, 1099, 1100, 1582, 1583, 1584, 1585, 1101, 1102, 1103, 1104, 1105, 1586, 1587, 1588, 1589, 1590, 1106, 1107, 1108] (by decide +kernel)
set_option maxRecDepth 20000 in
theorem wr_57 : ∀ w ∈ wsL_law_r57, w ∈ lw_tblX := in_r _ [1109, 1110, 1111, 1112, 1113, 1591, 1592, 1593, 1594, 1595, 1597, 71, 1598, 1114, 1115, 1116, 1117, 208, 210, 212, 214, 140, 264, 248] (by decide +kernel)
set_option maxRecDepth 20000 in
theorem wr_58 : ∀ w ∈ wsL_law_r58, w ∈ lw_tblX := in_r _ [1118, 1119, 1120, 1121, 1599, 1600, 1601, 1602, 1122, 1123, 1124, 1125, 1126, 1127, 1128, 1129, 1657, 1658, 1659, 1660, 1130, 1131, 1132, 1133] (by decide +kernel)
set_option maxRecDepth 20000 in
theorem wr_59 : ∀ w ∈ wsL_law_r59, w ∈ lw_tblX := in_r _ [1661, 1662, 1663, 1664, 1134, 1135, 1136, 1137, 1665, 1666, 1667, 1668] (by decide +kernel)
set_option maxRecDepth 20000 in
theorem inX12 : ∀ w ∈ wsX120, w ∈ lw_tblX := in_r _ [389, 391, 393, 395, 397, 399, 401, 403, 405, 407, 409] (by decide +kernel)
set_option maxRecDepth 20000 in
theorem inX13 : ∀ w ∈ wsX130, w ∈ lw_tblX := in_r _ [1175, 1177, 1179, 1181, 1183, 1185, 1187, 1189, 1191, 1193, 1195, 1197, 1199, 1201, 1203, 1205, 1207, 1209, 1211, 1213, 1215, 1217, 1219, 1221, 1223, 1225, 1227] (by decide +kernel)
set_option maxRecDepth 20000 in
theorem inX6 : ∀ w ∈ wsX60, w ∈ lw_tblX := in_r _ [215, 217, 219, 221, 223, 225, 227, 229, 231, 233] (by decide +kernel)
set_option maxRecDepth 20000 in
theorem inX5 : ∀ w ∈ wsX50, w ∈ lw_tblX := in_r _ [249, 251, 253] (by decide +kernel)
set_option maxRecDepth 20000 in
theorem inX10 : ∀ w ∈ wsX100, w ∈ lw_tblX := in_r _ [277, 279, 281, 283, 285, 287, 289, 291] (by decide +kernel)
set_option maxRecDepth 20000 in
theorem inX11 : ∀ w ∈ wsX110, w ∈ lw_tblX := in_r _ [309, 311, 313, 315] (by decide +kernel)
set_option maxRecDepth 20000 in
theorem inX9 : ∀ w ∈ wsX90, w ∈ lw_tblX := in_r _ [328, 330] (by decide +kernel)
set_option maxRecDepth 20000 in
theorem inX8 : ∀ w ∈ wsX80, w ∈ lw_tblX := in_r _ [341, 343] (by decide +kernel)
set_option maxRecDepth 20000 in
theorem inJ4 : ∀ w ∈ wsJ40, w ∈ lw_tblX := in_r _ [368, 370, 372, 374] (by decide +kernel)
set_option maxRecDepth 20000 in
theorem inX7 : ∀ w ∈ wsX70, w ∈ lw_tblX := in_r _ [141, 143, 145, 147, 149] (by decide +kernel)
set_option maxRecDepth 20000 in
theorem inX4 : ∀ w ∈ wsX40, w ∈ lw_tblX := in_r _ [161, 163] (by decide +kernel)
set_option maxRecDepth 20000 in
theorem inX1 : ∀ w ∈ wsX10, w ∈ lw_tblX := in_r _ [181, 183, 185, 187] (by decide +kernel)
def wsL_lawB : List Cond := (wsL_law_r1 ++ (wsL_law_r2 ++ (wsL_law_r3 ++ (wsL_law_r4 ++ (wsL_law_r5 ++ (wsL_law_r6 ++ (wsL_law_r7 ++ (wsL_law_r8 ++ (wsL_law_r9 ++ (wsL_law_r10 ++ (wsL_law_r11 ++ (wsL_law_r12 ++ (wsL_law_r13 ++ (wsL_law_r14 ++ (wsL_law_r15 ++ (wsL_law_r16 ++ (wsL_law_r17 ++ (wsL_law_r18 ++ (wsL_law_r19 ++ (wsL_law_r20 ++ (wsL_law_r21 ++ (wsL_law_r22 ++ (wsL_law_r23 ++ (wsL_law_r24 ++ (wsL_law_r25 ++ (wsL_law_r26 ++ (wsL_law_r27 ++ (wsL_law_r28 ++ (wsL_law_r29 ++ (wsL_law_r30B ++ (wsL_law_r31 ++ (wsL_law_r32 ++ (wsL_law_r33 ++ (wsL_law_r34 ++ (wsL_law_r35 ++ (wsL_law_r36 ++ (wsL_law_r37 ++ (wsL_law_r38 ++ (wsL_law_r39 ++ (wsL_law_r40 ++ (wsL_law_r41 ++ (wsL_law_r42 ++ (wsL_law_r43 ++ (wsL_law_r44 ++ (wsL_law_r45 ++ (wsL_law_r46 ++ (wsL_law_r47 ++ (wsL_law_r48 ++ (wsL_law_r49 ++ (wsL_law_r50 ++ (wsL_law_r51 ++ (wsL_law_r52 ++ (wsL_law_r53 ++ (wsL_law_r54 ++ (wsL_law_r55 ++ (wsL_law_r56 ++ (wsL_law_r57 ++ (wsL_law_r58 ++ wsL_law_r59)))))))))))))))))))))))))))))))))))))))))))))))))))))))))) ++ wsX120 ++ wsX130 ++ wsX60 ++ wsX50 ++ wsX100 ++ wsX110 ++ wsX90 ++ wsX80 ++ wsJ40 ++ wsX70 ++ wsX40 ++ wsX10 ++ ([] : List Cond)
theorem wsL_lawB_in : ∀ w ∈ wsL_lawB, w ∈ lw_tblX := (all_app (all_app (all_app (all_app (all_app (all_app (all_app (all_app (all_app (all_app (all_app (all_app (all_app (all_app wr_1 (all_app wr_2 (all_app wr_3 (all_app wr_4 (all_app wr_5 (all_app wr_6 (all_app wr_7 (all_app wr_8 (all_app wr_9 (all_app wr_10 (all_app wr_11 (all_app wr_12 (all_app wr_13 (all_app wr_14 (all_app wr_15 (all_app wr_16 (all_app wr_17 (all_app wr_18 (all_app wr_19 (all_app wr_20 (all_app wr_21 (all_app wr_22 (all_app wr_23 (all_app wr_24 (all_app wr_25 (all_app wr_26 (all_app wr_27 (all_app wr_28 (all_app wr_29 (all_app wr_30 (all_app wr_31 (all_app wr_32 (all_app wr_33 (all_app wr_34 (all_app wr_35 (all_app wr_36 (all_app wr_37 (all_app wr_38 (all_app wr_39 (all_app wr_40 (all_app wr_41 (all_app wr_42 (all_app wr_43 (all_app wr_44 (all_app wr_45 (all_app wr_46 (all_app wr_47 (all_app wr_48 (all_app wr_49 (all_app wr_50 (all_app wr_51 (all_app wr_52 (all_app wr_53 (all_app wr_54 (all_app wr_55 (all_app wr_56 (all_app wr_57 (all_app wr_58 wr_59)))))))))))))))))))))))))))))))))))))))))))))))))))))))))) inX12) inX13) inX6) inX5) inX10) inX11) inX9) inX8) inJ4) inX7) inX4) inX1) (fun _ h => absurd h List.not_mem_nil))
theorem inlX12 : ∀ w ∈ wsX120, w ∈ wsL_lawB := fun _ h => List.mem_append_left _ (List.mem_append_left _ (List.mem_append_left _ (List.mem_append_left _ (List.mem_append_left _ (List.mem_append_left _ (List.mem_append_left _ (List.mem_append_left _ (List.mem_append_left _ (List.mem_append_left _ (List.mem_append_left _ (List.mem_append_left _ (List.mem_append_right _ h))))))))))))
theorem inlX13 : ∀ w ∈ wsX130, w ∈ wsL_lawB := fun _ h => List.mem_append_left _ (List.mem_append_left _ (List.mem_append_left _ (List.mem_append_left _ (List.mem_append_left _ (List.mem_append_left _ (List.mem_append_left _ (List.mem_append_left _ (List.mem_append_left _ (List.mem_append_left _ (List.mem_append_left _ (List.mem_append_right _ h)))))))))))
theorem inlX6 : ∀ w ∈ wsX60, w ∈ wsL_lawB := fun _ h => List.mem_append_left _ (List.mem_append_left _ (List.mem_append_left _ (List.mem_append_left _ (List.mem_append_left _ (List.mem_append_left _ (List.mem_append_left _ (List.mem_append_left _ (List.mem_append_left _ (List.mem_append_left _ (List.mem_append_right _ h))))))))))
theorem inlX5 : ∀ w ∈ wsX50, w ∈ wsL_lawB := fun _ h => List.mem_append_left _ (List.mem_append_left _ (List.mem_append_left _ (List.mem_append_left _ (List.mem_append_left _ (List.mem_append_left _ (List.mem_append_left _ (List.mem_append_left _ (List.mem_append_left _ (List.mem_append_right _ h)))))))))
theorem inlX10 : ∀ w ∈ wsX100, w ∈ wsL_lawB := fun _ h => List.mem_append_left _ (List.mem_append_left _ (List.mem_append_left _ (List.mem_append_left _ (List.mem_append_left _ (List.mem_append_left _ (List.mem_append_left _ (List.mem_append_left _ (List.mem_append_right _ h))))))))
theorem inlX11 : ∀ w ∈ wsX110, w ∈ wsL_lawB := fun _ h => List.mem_append_left _ (List.mem_append_left _ (List.mem_append_left _ (List.mem_append_left _ (List.mem_append_left _ (List.mem_append_left _ (List.mem_append_left _ (List.mem_append_right _ h)))))))
theorem inlX9 : ∀ w ∈ wsX90, w ∈ wsL_lawB := fun _ h => List.mem_append_left _ (List.mem_append_left _ (List.mem_append_left _ (List.mem_append_left _ (List.mem_append_left _ (List.mem_append_left _ (List.mem_append_right _ h))))))
theorem inlX8 : ∀ w ∈ wsX80, w ∈ wsL_lawB := fun _ h => List.mem_append_left _ (List.mem_append_left _ (List.mem_append_left _ (List.mem_append_left _ (List.mem_append_left _ (List.mem_append_right _ h)))))
theorem inlJ4 : ∀ w ∈ wsJ40, w ∈ wsL_lawB := fun _ h => List.mem_append_left _ (List.mem_append_left _ (List.mem_append_left _ (List.mem_append_left _ (List.mem_append_right _ h))))
theorem inlX7 : ∀ w ∈ wsX70, w ∈ wsL_lawB := fun _ h => List.mem_append_left _ (List.mem_append_left _ (List.mem_append_left _ (List.mem_append_right _ h)))
theorem inlX4 : ∀ w ∈ wsX40, w ∈ wsL_lawB := fun _ h => List.mem_append_left _ (List.mem_append_left _ (List.mem_append_right _ h))
theorem inlX1 : ∀ w ∈ wsX10, w ∈ wsL_lawB := fun _ h => List.mem_append_left _ (List.mem_append_right _ h)
theorem lw_y3 : (Cond.instantiable RJ4 4 ∈ lw_tbl ∧ Cond.selects RJ4 yJ5_isLatin1_aae02 yJ5_isLatin1_aae02 ∈ lw_tbl) ∧ (Cond.privateMethod yJ5_ensureCapacityInternal_d00df ∈ lw_tbl ∧ Cond.instanceMethod yJ5_ensureCapacityInternal_d00df ∈ lw_tbl) ∧ (Cond.privateMethod yJ5_newCapacity_0f7a4 ∈ lw_tbl ∧ Cond.instanceMethod yJ5_newCapacity_0f7a4 ∈ lw_tbl) ∧ Cond.privateMethod yJ5_inflate_da8c8 ∈ lw_tbl ∧ Cond.instanceMethod yJ5_inflate_da8c8 ∈ lw_tbl := by decide +kernel
theorem lw_htx {args : Array Value} {s : State} (hts : ∀ w ∈ lw_tbl, w.before args s = true) : ∀ w ∈ lw_tblX, w.before args s = true := by
  obtain ⟨⟨a1, a2⟩, ⟨b1, b2⟩, ⟨c1, c2⟩, d1, d2⟩ := lw_y3
  intro w hw
  rcases List.mem_append.mp hw with h | h
  · exact hts w h
  · rcases List.mem_cons.mp h with rfl | h
    · exact k3_sel (z := yJ5_isLatin1_aae02) ⟨by decide, by decide⟩ (hts _ a1) (hts _ b1) (hts _ b2) (hts _ a2) rfl
    rcases List.mem_cons.mp h with rfl | h
    · exact k3_sel (z := yJ5_isLatin1_aae02) ⟨by decide, by decide⟩ (hts _ a1) (hts _ c1) (hts _ c2) (hts _ a2) rfl
    rcases List.mem_cons.mp h with rfl | h
    · exact k3_sel (z := yJ5_isLatin1_aae02) ⟨by decide, by decide⟩ (hts _ a1) (hts _ d1) (hts _ d2) (hts _ a2) rfl
    · exact absurd h List.not_mem_nil

