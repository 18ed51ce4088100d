/-! the tables words that the abstract tables rest on, by their places in lw_tbl -/
def kFp : List (List Nat) := [[311], [188, 190, 192, 195, 198, 200, 201, 202, 203, 207, 154, 164], [241, 242, 244, 245], [151, 156, 160, 163, 167, 121], [135, 137], [322, 323, 324, 325, 326, 327, 328, 321, 120, 159, 206, 210, 194, 197], [262, 263, 264, 153, 161, 157, 204, 208], [280, 281, 282, 279, 152, 165, 169], [298, 299], [118, 119], [463, 464, 465, 466, 467, 468, 469, 470, 471, 472, 473, 474, 158, 162, 205, 209, 168, 189, 193, 199, 191, 196, 122, 155, 166, 265, 243, 138, 136], [1124, 1126, 1125, 1129, 1130, 1131, 1132, 1133, 1134, 1139, 1141, 1142, 1145, 1146, 1148, 1153, 1154, 1155, 1157, 1158, 1159, 1161, 1162, 1164, 1165, 1166, 1168, 1169, 1170, 1127, 1135, 1136, 1138, 1137, 1140, 1147, 1128, 1144, 1143, 1149, 1151, 1152, 1150, 1156, 1160, 1163, 1167], [], []]
def kMp : List (List Nat) := [[310], [187, 620, 599, 586, 590, 627, 634, 635, 639, 643, 663, 688, 691, 659, 684, 598, 594, 603, 630, 647], [237, 240, 612, 616], [150, 607, 525, 526, 529, 533, 544, 545, 548, 572, 575], [134, 914], [320, 407, 410, 414, 432, 444, 418, 667, 455, 681, 422, 425, 429, 436, 440, 452, 448, 670, 671, 677], [261, 927, 948, 952, 956, 930, 931], [278, 796, 823, 808, 831, 835, 811, 852, 860, 865, 800, 815, 819, 814, 804, 856], [297, 891], [117, 399, 351, 361], [109, 114, 131, 147, 184, 234, 258, 275, 294, 307, 317, 347, 403, 459, 505, 513, 521, 540, 552, 560, 791, 765, 745, 747, 1099, 1101, 568, 582, 608, 623, 655, 692, 696, 700, 711, 727, 728, 716, 717, 736, 744, 746, 756, 766, 775, 782, 792, 827, 840, 848, 861, 873, 874, 886, 887, 894, 907, 910, 923, 936, 944, 961, 965, 974, 984, 988, 1001, 1009, 1017, 715, 720, 723, 726, 992, 977], [1602, 1466, 1123, 1274, 1371, 1378, 1285, 1309, 1303, 1304, 1299, 1340, 1281, 1286, 1305, 1294, 1312, 1316, 1332, 1336, 1346, 1328, 1324, 1354, 1391, 1374, 1386, 1387, 1362, 1367, 1382, 1398, 1408, 1441, 1430, 1426, 1433, 1458, 1462, 1421, 1454, 1417, 1437, 1450, 1470, 1481, 1486, 1499, 1534, 1538, 1530, 1546, 1553, 1561, 1582, 1595, 1598, 1626, 1622, 1645, 1642, 1652, 1669], [1022, 1095, 1109, 106, 1120, 501, 1266, 509, 1270, 517, 1277, 536, 1290, 556, 1320, 1018, 1358, 1114, 1092, 1394, 564, 1403, 578, 1413, 651, 1445, 703, 1473, 707, 1477, 732, 1409, 740, 1490, 748, 1494, 752, 1503, 757, 1507, 761, 1517, 767, 1521, 771, 1512, 778, 1569, 783, 1573, 787, 1525, 836, 1542, 844, 1549, 869, 1557, 878, 1565, 882, 1577, 898, 1586, 902, 1590, 915, 1605, 919, 1610, 932, 1614, 940, 1618, 957, 1630, 966, 1634, 970, 1638, 980, 1648, 997, 1657, 1005, 1661, 1013, 1665, 1106, 1673], []]
def kQp : List (Nat × Nat × Nat) := [(90, 308, 0), (90, 985, 986), (90, 993, 994), (85, 185, 0), (85, 617, 618), (85, 678, 679), (85, 600, 601), (85, 1102, 1103), (85, 583, 584), (85, 624, 625), (85, 660, 661), (85, 685, 686), (85, 656, 657), (85, 596, 14), (85, 592, 13), (85, 628, 0), (85, 637, 16), (85, 641, 17), (85, 645, 18), (85, 649, 19), (86, 235, 0), (86, 609, 610), (86, 737, 738), (86, 1002, 1003), (86, 1010, 1011), (86, 553, 554), (86, 614, 15), (84, 148, 0), (84, 587, 588), (84, 604, 605), (84, 522, 523), (84, 541, 542), (84, 569, 570), (84, 841, 842), (84, 962, 963), (84, 631, 632), (84, 550, 11), (84, 531, 10), (84, 573, 0), (83, 132, 0), (83, 693, 694), (83, 697, 698), (83, 911, 912), (91, 318, 0), (91, 404, 405), (91, 664, 665), (91, 416, 1), (91, 434, 4), (91, 438, 5), (91, 442, 6), (91, 446, 7), (91, 453, 0), (91, 450, 8), (91, 420, 2), (91, 457, 9), (91, 427, 3), (91, 430, 0), (91, 668, 0), (91, 682, 0), (87, 259, 0), (87, 924, 925), (87, 937, 938), (87, 945, 946), (87, 950, 33), (87, 954, 34), (87, 928, 0), (88, 276, 0), (88, 793, 794), (88, 828, 829), (88, 849, 850), (88, 862, 863), (88, 798, 22), (88, 825, 27), (88, 802, 23), (88, 806, 24), (88, 833, 28), (88, 817, 25), (88, 821, 26), (88, 854, 29), (88, 867, 31), (88, 858, 30), (88, 812, 0), (88, 809, 0), (89, 295, 0), (89, 888, 889), (89, 895, 896), (89, 892, 0), (82, 115, 0), (82, 506, 507), (82, 348, 349), (82, 514, 515), (82, 460, 461), (82, 411, 412), (82, 401, 0), (81, 107, 0), (81, 502, 503), (81, 510, 511), (81, 518, 519), (81, 537, 538), (81, 557, 558), (81, 1023, 1024), (81, 1096, 1097), (81, 565, 566), (81, 579, 580), (81, 652, 653), (81, 704, 705), (81, 708, 709), (81, 733, 734), (81, 741, 742), (81, 749, 750), (81, 753, 754), (81, 758, 759), (81, 762, 763), (81, 768, 769), (81, 772, 773), (81, 779, 780), (81, 784, 785), (81, 788, 789), (81, 837, 838), (81, 845, 846), (81, 870, 871), (81, 879, 880), (81, 883, 884), (81, 899, 900), (81, 903, 904), (81, 916, 917), (81, 920, 921), (81, 933, 934), (81, 941, 942), (81, 958, 959), (81, 967, 968), (81, 971, 972), (81, 981, 982), (81, 998, 999), (81, 1006, 1007), (81, 1014, 1015), (81, 1110, 1111), (81, 562, 12), (81, 713, 20), (81, 718, 0), (81, 721, 0), (81, 724, 0), (81, 730, 21), (81, 990, 35), (81, 876, 32), (81, 975, 0), (81, 978, 0), (81, 701, 0), (81, 546, 0), (81, 776, 0), (81, 527, 0), (81, 423, 0), (81, 689, 0), (81, 534, 0), (81, 908, 0), (97, 1115, 1116), (97, 1369, 52), (97, 1275, 0), (97, 1372, 0), (97, 1310, 0), (97, 1603, 0), (97, 1468, 66), (97, 1600, 75), (97, 1121, 0), (97, 1364, 51), (97, 1399, 0), (97, 1380, 54), (97, 1376, 53), (97, 1671, 79), (97, 1267, 1268), (97, 1271, 1272), (97, 1283, 37), (97, 1314, 42), (97, 1342, 48), (97, 1301, 40), (97, 1307, 41), (97, 1348, 49), (97, 1288, 38), (97, 1318, 43), (97, 1278, 1279), (97, 1296, 39), (97, 1291, 1292), (97, 1338, 47), (97, 1334, 46), (97, 1330, 45), (97, 1326, 44), (97, 1356, 50), (97, 1321, 1322), (97, 1392, 0), (97, 1389, 56), (97, 1384, 55), (97, 1359, 1360), (97, 1395, 1396), (97, 1404, 1405), (97, 1419, 57), (97, 1443, 62), (97, 1439, 61), (97, 1410, 1411), (97, 1435, 60), (97, 1431, 0), (97, 1428, 59), (97, 1423, 58), (97, 1460, 65), (97, 1456, 64), (97, 1452, 63), (97, 1471, 0), (97, 1414, 1415), (97, 1446, 1447), (97, 1474, 1475), (97, 1483, 67), (97, 1488, 68), (97, 1478, 1479), (97, 1501, 69), (97, 1491, 1492), (97, 1495, 1496), (97, 1504, 1505), (97, 1508, 1509), (97, 1513, 1514), (97, 1518, 1519), (97, 1522, 1523), (97, 1535, 0), (97, 1540, 71), (97, 1532, 70), (97, 1526, 1527), (97, 1547, 0), (97, 1543, 1544), (97, 1555, 72), (97, 1550, 1551), (97, 1563, 73), (97, 1558, 1559), (97, 1566, 1567), (97, 1570, 1571), (97, 1574, 1575), (97, 1584, 74), (97, 1578, 1579), (97, 1587, 1588), (97, 1596, 0), (97, 1591, 1592), (97, 1606, 1607), (97, 1611, 1612), (97, 1615, 1616), (97, 1628, 77), (97, 1624, 76), (97, 1619, 1620), (97, 1631, 1632), (97, 1635, 1636), (97, 1646, 0), (97, 1643, 0), (97, 1639, 1640), (97, 1654, 78), (97, 1649, 1650), (97, 1658, 1659), (97, 1662, 1663), (97, 1666, 1667), (97, 1674, 1675), (102, 1463, 0), (102, 672, 0), (80, 1019, 0), (80, 1093, 0), (80, 1107, 0), (0, 0, 0)]
set_option maxRecDepth 100000 in
theorem kc_X0_init : lw_tbl[309]? = some (.code yX0_init cX0_init 1 none) := rfl
set_option maxRecDepth 100000 in
theorem kc_X0_start : lw_tbl[987]? = some (.code yX0_start cX0_start 2 none) := rfl
set_option maxRecDepth 100000 in
theorem kc_X0_of : lw_tbl[995]? = some (.code yX0_of cX0_of 2 (some .int)) := rfl
set_option maxRecDepth 100000 in
theorem kc_X1_init : lw_tbl[186]? = some (.code yX1_init cX1_init 1 none) := rfl
set_option maxRecDepth 100000 in
theorem kc_X1_copy : lw_tbl[619]? = some (.code yX1_copy cX1_copy 2 none) := rfl
set_option maxRecDepth 100000 in
theorem kc_X1_hadHat : lw_tbl[680]? = some (.code yX1_hadHat cX1_hadHat 2 (some .int)) := rfl
set_option maxRecDepth 100000 in
theorem kc_X1_sayable : lw_tbl[602]? = some (.code yX1_sayable cX1_sayable 4 (some .int)) := rfl
set_option maxRecDepth 100000 in
theorem kc_X1_sayers : lw_tbl[1104]? = some (.code yX1_sayers cX1_sayers 5 (some .int)) := rfl
set_option maxRecDepth 100000 in
theorem kc_X1_refusal : lw_tbl[585]? = some (.code yX1_refusal cX1_refusal 5 (some .int)) := rfl
set_option maxRecDepth 100000 in
theorem kc_X1_goOn : lw_tbl[626]? = some (.code yX1_goOn cX1_goOn 6 none) := rfl
set_option maxRecDepth 100000 in
theorem kc_X1_speaker : lw_tbl[662]? = some (.code yX1_speaker cX1_speaker 7 (some .int)) := rfl
set_option maxRecDepth 100000 in
theorem kc_X1_takeTurn : lw_tbl[687]? = some (.code yX1_takeTurn cX1_takeTurn 4 none) := rfl
set_option maxRecDepth 100000 in
theorem kc_X1_play : lw_tbl[658]? = some (.code yX1_play cX1_play 7 (some .int)) := rfl
set_option maxRecDepth 100000 in
theorem kc_X1_canSay : lw_tbl[597]? = some (.code yX1_canSay cX1_canSay 4 (some .boolean)) := rfl
set_option maxRecDepth 100000 in
theorem kc_X1_canTalk : lw_tbl[593]? = some (.code yX1_canTalk cX1_canTalk 5 (some .boolean)) := rfl
set_option maxRecDepth 100000 in
theorem kc_X1_minutesOf : lw_tbl[629]? = some (.code yX1_minutesOf cX1_minutesOf 3 (some .int)) := rfl
set_option maxRecDepth 100000 in
theorem kc_X1_wearerAfter : lw_tbl[638]? = some (.code yX1_wearerAfter cX1_wearerAfter 4 (some .int)) := rfl
set_option maxRecDepth 100000 in
theorem kc_X1_markSaid : lw_tbl[642]? = some (.code yX1_markSaid cX1_markSaid 3 none) := rfl
set_option maxRecDepth 100000 in
theorem kc_X1_pass : lw_tbl[646]? = some (.code yX1_pass cX1_pass 2 none) := rfl
set_option maxRecDepth 100000 in
theorem kc_X1_strike : lw_tbl[650]? = some (.code yX1_strike cX1_strike 1 none) := rfl
set_option maxRecDepth 100000 in
theorem kc_X2_init : lw_tbl[236]? = some (.code yX2_init cX2_init 2 none) := rfl
set_option maxRecDepth 100000 in
theorem kc_X2_remember : lw_tbl[611]? = some (.code yX2_remember cX2_remember 2 none) := rfl
set_option maxRecDepth 100000 in
theorem kc_X2_bringBack : lw_tbl[739]? = some (.code yX2_bringBack cX2_bringBack 2 (some .int)) := rfl
set_option maxRecDepth 100000 in
theorem kc_X2_keepUnder : lw_tbl[1004]? = some (.code yX2_keepUnder cX2_keepUnder 3 (some .boolean)) := rfl
set_option maxRecDepth 100000 in
theorem kc_X2_takeAgain : lw_tbl[1012]? = some (.code yX2_takeAgain cX2_takeAgain 3 (some .boolean)) := rfl
set_option maxRecDepth 100000 in
theorem kc_X2_forgetAll : lw_tbl[555]? = some (.code yX2_forgetAll cX2_forgetAll 2 none) := rfl
set_option maxRecDepth 100000 in
theorem kc_X2_dropOldest : lw_tbl[615]? = some (.code yX2_dropOldest cX2_dropOldest 3 none) := rfl
set_option maxRecDepth 100000 in
theorem kc_X3_init : lw_tbl[149]? = some (.code yX3_init cX3_init 1 none) := rfl
set_option maxRecDepth 100000 in
theorem kc_X3_has : lw_tbl[589]? = some (.code yX3_has cX3_has 2 (some .boolean)) := rfl
set_option maxRecDepth 100000 in
theorem kc_X3_areTwo : lw_tbl[606]? = some (.code yX3_areTwo cX3_areTwo 3 (some .boolean)) := rfl
set_option maxRecDepth 100000 in
theorem kc_X3_readLengths : lw_tbl[524]? = some (.code yX3_readLengths cX3_readLengths 3 (some .int)) := rfl
set_option maxRecDepth 100000 in
theorem kc_X3_readLines : lw_tbl[543]? = some (.code yX3_readLines cX3_readLines 9 (some .int)) := rfl
set_option maxRecDepth 100000 in
theorem kc_X3_takeSheet : lw_tbl[571]? = some (.code yX3_takeSheet cX3_takeSheet 8 (some .int)) := rfl
set_option maxRecDepth 100000 in
theorem kc_X3_couldTogether : lw_tbl[843]? = some (.code yX3_couldTogether cX3_couldTogether 4 (some .int)) := rfl
set_option maxRecDepth 100000 in
theorem kc_X3_wanting : lw_tbl[964]? = some (.code yX3_wanting cX3_wanting 4 (some .int)) := rfl
set_option maxRecDepth 100000 in
theorem kc_X3_minutes : lw_tbl[633]? = some (.code yX3_minutes cX3_minutes 4 (some .int)) := rfl
set_option maxRecDepth 100000 in
theorem kc_X3_settle : lw_tbl[551]? = some (.code yX3_settle cX3_settle 3 (some .int)) := rfl
set_option maxRecDepth 100000 in
theorem kc_X3_weigh : lw_tbl[532]? = some (.code yX3_weigh cX3_weigh 3 none) := rfl
set_option maxRecDepth 100000 in
theorem kc_X3_sheetEntry : lw_tbl[574]? = some (.code yX3_sheetEntry cX3_sheetEntry 2 (some .int)) := rfl
set_option maxRecDepth 100000 in
theorem kc_X4_init : lw_tbl[133]? = some (.code yX4_init cX4_init 1 none) := rfl
set_option maxRecDepth 100000 in
theorem kc_X4_start : lw_tbl[695]? = some (.code yX4_start cX4_start 1 none) := rfl
set_option maxRecDepth 100000 in
theorem kc_X4_add : lw_tbl[699]? = some (.code yX4_add cX4_add 3 none) := rfl
set_option maxRecDepth 100000 in
theorem kc_X4_addFraction : lw_tbl[913]? = some (.code yX4_addFraction cX4_addFraction 12 none) := rfl
set_option maxRecDepth 100000 in
theorem kc_X5_init : lw_tbl[319]? = some (.code yX5_init cX5_init 2 none) := rfl
set_option maxRecDepth 100000 in
theorem kc_X5_read : lw_tbl[406]? = some (.code yX5_read cX5_read 4 (some .int)) := rfl
set_option maxRecDepth 100000 in
theorem kc_X5_eagerness : lw_tbl[666]? = some (.code yX5_eagerness cX5_eagerness 7 (some .int)) := rfl
set_option maxRecDepth 100000 in
theorem kc_X5_takesPart : lw_tbl[417]? = some (.code yX5_takesPart cX5_takesPart 2 (some .boolean)) := rfl
set_option maxRecDepth 100000 in
theorem kc_X5_takesJoin : lw_tbl[435]? = some (.code yX5_takesJoin cX5_takesJoin 3 (some .boolean)) := rfl
set_option maxRecDepth 100000 in
theorem kc_X5_lengthensNumber : lw_tbl[439]? = some (.code yX5_lengthensNumber cX5_lengthensNumber 2 (some .boolean)) := rfl
set_option maxRecDepth 100000 in
theorem kc_X5_closesBracket : lw_tbl[443]? = some (.code yX5_closesBracket cX5_closesBracket 1 (some .boolean)) := rfl
set_option maxRecDepth 100000 in
theorem kc_X5_release : lw_tbl[447]? = some (.code yX5_release cX5_release 3 none) := rfl
set_option maxRecDepth 100000 in
theorem kc_X5_bondOf : lw_tbl[454]? = some (.code yX5_bondOf cX5_bondOf 1 (some .int)) := rfl
set_option maxRecDepth 100000 in
theorem kc_X5_waiting : lw_tbl[451]? = some (.code yX5_waiting cX5_waiting 1 (some .int)) := rfl
set_option maxRecDepth 100000 in
theorem kc_X5_push : lw_tbl[421]? = some (.code yX5_push cX5_push 2 none) := rfl
set_option maxRecDepth 100000 in
theorem kc_X5_pop : lw_tbl[458]? = some (.code yX5_pop cX5_pop 1 (some .int)) := rfl
set_option maxRecDepth 100000 in
theorem kc_X5_put : lw_tbl[428]? = some (.code yX5_put cX5_put 2 none) := rfl
set_option maxRecDepth 100000 in
theorem kc_X5_isLetter : lw_tbl[431]? = some (.code yX5_isLetter cX5_isLetter 1 (some .boolean)) := rfl
set_option maxRecDepth 100000 in
theorem kc_X5_valueOf : lw_tbl[669]? = some (.code yX5_valueOf cX5_valueOf 4 (some .int)) := rfl
set_option maxRecDepth 100000 in
theorem kc_X5_joined : lw_tbl[683]? = some (.code yX5_joined cX5_joined 3 (some .int)) := rfl
set_option maxRecDepth 100000 in
theorem kc_X6_init : lw_tbl[260]? = some (.code yX6_init cX6_init 1 none) := rfl
set_option maxRecDepth 100000 in
theorem kc_X6_add : lw_tbl[926]? = some (.code yX6_add cX6_add 3 (some .int)) := rfl
set_option maxRecDepth 100000 in
theorem kc_X6_clear : lw_tbl[939]? = some (.code yX6_clear cX6_clear 2 (some .int)) := rfl
set_option maxRecDepth 100000 in
theorem kc_X6_fitting : lw_tbl[947]? = some (.code yX6_fitting cX6_fitting 5 (some .int)) := rfl
set_option maxRecDepth 100000 in
theorem kc_X6_fitsAll : lw_tbl[951]? = some (.code yX6_fitsAll cX6_fitsAll 5 (some .boolean)) := rfl
set_option maxRecDepth 100000 in
theorem kc_X6_fitsOne : lw_tbl[955]? = some (.code yX6_fitsOne cX6_fitsOne 6 (some .boolean)) := rfl
set_option maxRecDepth 100000 in
theorem kc_X6_canBe : lw_tbl[929]? = some (.code yX6_canBe cX6_canBe 2 (some .boolean)) := rfl
set_option maxRecDepth 100000 in
theorem kc_X7_init : lw_tbl[277]? = some (.code yX7_init cX7_init 2 none) := rfl
set_option maxRecDepth 100000 in
theorem kc_X7_fewestMinutes : lw_tbl[795]? = some (.code yX7_fewestMinutes cX7_fewestMinutes 5 (some .int)) := rfl
set_option maxRecDepth 100000 in
theorem kc_X7_tellTalks : lw_tbl[830]? = some (.code yX7_tellTalks cX7_tellTalks 8 none) := rfl
set_option maxRecDepth 100000 in
theorem kc_X7_mostShared : lw_tbl[851]? = some (.code yX7_mostShared cX7_mostShared 7 (some .int)) := rfl
set_option maxRecDepth 100000 in
theorem kc_X7_tellShares : lw_tbl[864]? = some (.code yX7_tellShares cX7_tellShares 5 none) := rfl
set_option maxRecDepth 100000 in
theorem kc_X7_fillPlains : lw_tbl[799]? = some (.code yX7_fillPlains cX7_fillPlains 5 none) := rfl
set_option maxRecDepth 100000 in
theorem kc_X7_fillWithSneezes : lw_tbl[826]? = some (.code yX7_fillWithSneezes cX7_fillWithSneezes 5 none) := rfl
set_option maxRecDepth 100000 in
theorem kc_X7_fewestIfFirst : lw_tbl[803]? = some (.code yX7_fewestIfFirst cX7_fewestIfFirst 5 (some .int)) := rfl
set_option maxRecDepth 100000 in
theorem kc_X7_minutesBy : lw_tbl[807]? = some (.code yX7_minutesBy cX7_minutesBy 4 (some .int)) := rfl
set_option maxRecDepth 100000 in
theorem kc_X7_leastTalk : lw_tbl[834]? = some (.code yX7_leastTalk cX7_leastTalk 6 (some .int)) := rfl
set_option maxRecDepth 100000 in
theorem kc_X7_soonestOf : lw_tbl[818]? = some (.code yX7_soonestOf cX7_soonestOf 5 (some .int)) := rfl
set_option maxRecDepth 100000 in
theorem kc_X7_fewestBeside : lw_tbl[822]? = some (.code yX7_fewestBeside cX7_fewestBeside 5 (some .int)) := rfl
set_option maxRecDepth 100000 in
theorem kc_X7_mostWithTaker : lw_tbl[855]? = some (.code yX7_mostWithTaker cX7_mostWithTaker 5 (some .int)) := rfl
set_option maxRecDepth 100000 in
theorem kc_X7_leastTaker : lw_tbl[868]? = some (.code yX7_leastTaker cX7_leastTaker 5 (some .int)) := rfl
set_option maxRecDepth 100000 in
theorem kc_X7_canTake : lw_tbl[859]? = some (.code yX7_canTake cX7_canTake 4 (some .boolean)) := rfl
set_option maxRecDepth 100000 in
theorem kc_X7_without : lw_tbl[813]? = some (.code yX7_without cX7_without 2 (some .int)) := rfl
set_option maxRecDepth 100000 in
theorem kc_X7_place : lw_tbl[810]? = some (.code yX7_place cX7_place 2 (some .int)) := rfl
set_option maxRecDepth 100000 in
theorem kc_X8_init : lw_tbl[296]? = some (.code yX8_init cX8_init 1 none) := rfl
set_option maxRecDepth 100000 in
theorem kc_X8_fill : lw_tbl[890]? = some (.code yX8_fill cX8_fill 4 none) := rfl
set_option maxRecDepth 100000 in
theorem kc_X8_opening : lw_tbl[897]? = some (.code yX8_opening cX8_opening 3 (some .int)) := rfl
set_option maxRecDepth 100000 in
theorem kc_X8_winning : lw_tbl[893]? = some (.code yX8_winning cX8_winning 4 (some .int)) := rfl
set_option maxRecDepth 100000 in
theorem kc_X9_init : lw_tbl[116]? = some (.code yX9_init cX9_init 1 none) := rfl
set_option maxRecDepth 100000 in
theorem kc_X9_add : lw_tbl[508]? = some (.code yX9_add cX9_add 3 (some .int)) := rfl
set_option maxRecDepth 100000 in
theorem kc_X9_tell : lw_tbl[350]? = some (.code yX9_tell cX9_tell 3 none) := rfl
set_option maxRecDepth 100000 in
theorem kc_X9_cut : lw_tbl[516]? = some (.code yX9_cut cX9_cut 2 (some .boolean)) := rfl
set_option maxRecDepth 100000 in
theorem kc_X9_empty : lw_tbl[462]? = some (.code yX9_empty cX9_empty 1 none) := rfl
set_option maxRecDepth 100000 in
theorem kc_X9_at : lw_tbl[413]? = some (.code yX9_at cX9_at 2 (some .int)) := rfl
set_option maxRecDepth 100000 in
theorem kc_X9_put : lw_tbl[402]? = some (.code yX9_put cX9_put 2 none) := rfl
set_option maxRecDepth 100000 in
theorem kc_X10_init : lw_tbl[108]? = some (.code yX10_init cX10_init 1 none) := rfl
set_option maxRecDepth 100000 in
theorem kc_X10_sign : lw_tbl[504]? = some (.code yX10_sign cX10_sign 2 (some .int)) := rfl
set_option maxRecDepth 100000 in
theorem kc_X10_end : lw_tbl[512]? = some (.code yX10_end cX10_end 2 (some .boolean)) := rfl
set_option maxRecDepth 100000 in
theorem kc_X10_lengths : lw_tbl[520]? = some (.code yX10_lengths cX10_lengths 2 (some .int)) := rfl
set_option maxRecDepth 100000 in
theorem kc_X10_council : lw_tbl[539]? = some (.code yX10_council cX10_council 2 (some .int)) := rfl
set_option maxRecDepth 100000 in
theorem kc_X10_rule : lw_tbl[559]? = some (.code yX10_rule cX10_rule 3 (some .int)) := rfl
set_option maxRecDepth 100000 in
theorem kc_X10_man : lw_tbl[1025]? = some (.code yX10_man cX10_man 3 (some .int)) := rfl
set_option maxRecDepth 100000 in
theorem kc_X10_thing : lw_tbl[1098]? = some (.code yX10_thing cX10_thing 3 (some .int)) := rfl
set_option maxRecDepth 100000 in
theorem kc_X10_sheet : lw_tbl[567]? = some (.code yX10_sheet cX10_sheet 5 (some .int)) := rfl
set_option maxRecDepth 100000 in
theorem kc_X10_talk : lw_tbl[581]? = some (.code yX10_talk cX10_talk 5 (some .int)) := rfl
set_option maxRecDepth 100000 in
theorem kc_X10_turn : lw_tbl[654]? = some (.code yX10_turn cX10_turn 4 (some .int)) := rfl
set_option maxRecDepth 100000 in
theorem kc_X10_midnight : lw_tbl[706]? = some (.code yX10_midnight cX10_midnight 3 (some .int)) := rfl
set_option maxRecDepth 100000 in
theorem kc_X10_evening : lw_tbl[710]? = some (.code yX10_evening cX10_evening 6 (some .int)) := rfl
set_option maxRecDepth 100000 in
theorem kc_X10_undo : lw_tbl[735]? = some (.code yX10_undo cX10_undo 1 (some .int)) := rfl
set_option maxRecDepth 100000 in
theorem kc_X10_next : lw_tbl[743]? = some (.code yX10_next cX10_next 2 (some .int)) := rfl
set_option maxRecDepth 100000 in
theorem kc_X10_ahead : lw_tbl[751]? = some (.code yX10_ahead cX10_ahead 2 (some .int)) := rfl
set_option maxRecDepth 100000 in
theorem kc_X10_strikes : lw_tbl[755]? = some (.code yX10_strikes cX10_strikes 5 (some .int)) := rfl
set_option maxRecDepth 100000 in
theorem kc_X10_pays : lw_tbl[760]? = some (.code yX10_pays cX10_pays 4 (some .int)) := rfl
set_option maxRecDepth 100000 in
theorem kc_X10_vote : lw_tbl[764]? = some (.code yX10_vote cX10_vote 4 (some .int)) := rfl
set_option maxRecDepth 100000 in
theorem kc_X10_mute : lw_tbl[770]? = some (.code yX10_mute cX10_mute 4 (some .int)) := rfl
set_option maxRecDepth 100000 in
theorem kc_X10_when : lw_tbl[774]? = some (.code yX10_when cX10_when 3 (some .int)) := rfl
set_option maxRecDepth 100000 in
theorem kc_X10_alike : lw_tbl[781]? = some (.code yX10_alike cX10_alike 5 (some .int)) := rfl
set_option maxRecDepth 100000 in
theorem kc_X10_rivals : lw_tbl[786]? = some (.code yX10_rivals cX10_rivals 5 (some .int)) := rfl
set_option maxRecDepth 100000 in
theorem kc_X10_order : lw_tbl[790]? = some (.code yX10_order cX10_order 4 (some .int)) := rfl
set_option maxRecDepth 100000 in
theorem kc_X10_cover : lw_tbl[839]? = some (.code yX10_cover cX10_cover 5 (some .int)) := rfl
set_option maxRecDepth 100000 in
theorem kc_X10_shares : lw_tbl[847]? = some (.code yX10_shares cX10_shares 2 (some .int)) := rfl
set_option maxRecDepth 100000 in
theorem kc_X10_most : lw_tbl[872]? = some (.code yX10_most cX10_most 6 (some .int)) := rfl
set_option maxRecDepth 100000 in
theorem kc_X10_fro : lw_tbl[881]? = some (.code yX10_fro cX10_fro 8 (some .int)) := rfl
set_option maxRecDepth 100000 in
theorem kc_X10_game : lw_tbl[885]? = some (.code yX10_game cX10_game 4 (some .int)) := rfl
set_option maxRecDepth 100000 in
theorem kc_X10_wins : lw_tbl[901]? = some (.code yX10_wins cX10_wins 6 (some .int)) := rfl
set_option maxRecDepth 100000 in
theorem kc_X10_silent : lw_tbl[905]? = some (.code yX10_silent cX10_silent 15 (some .int)) := rfl
set_option maxRecDepth 100000 in
theorem kc_X10_lot : lw_tbl[918]? = some (.code yX10_lot cX10_lot 9 (some .int)) := rfl
set_option maxRecDepth 100000 in
theorem kc_X10_heard : lw_tbl[922]? = some (.code yX10_heard cX10_heard 3 (some .int)) := rfl
set_option maxRecDepth 100000 in
theorem kc_X10_forget : lw_tbl[935]? = some (.code yX10_forget cX10_forget 1 (some .int)) := rfl
set_option maxRecDepth 100000 in
theorem kc_X10_fits : lw_tbl[943]? = some (.code yX10_fits cX10_fits 2 (some .int)) := rfl
set_option maxRecDepth 100000 in
theorem kc_X10_ask : lw_tbl[960]? = some (.code yX10_ask cX10_ask 7 (some .int)) := rfl
set_option maxRecDepth 100000 in
theorem kc_X10_law : lw_tbl[969]? = some (.code yX10_law cX10_law 3 (some .int)) := rfl
set_option maxRecDepth 100000 in
theorem kc_X10_rests : lw_tbl[973]? = some (.code yX10_rests cX10_rests 5 (some .int)) := rfl
set_option maxRecDepth 100000 in
theorem kc_X10_years : lw_tbl[983]? = some (.code yX10_years cX10_years 4 (some .int)) := rfl
set_option maxRecDepth 100000 in
theorem kc_X10_keep : lw_tbl[1000]? = some (.code yX10_keep cX10_keep 2 (some .boolean)) := rfl
set_option maxRecDepth 100000 in
theorem kc_X10_again : lw_tbl[1008]? = some (.code yX10_again cX10_again 2 (some .boolean)) := rfl
set_option maxRecDepth 100000 in
theorem kc_X10_count : lw_tbl[1016]? = some (.code yX10_count cX10_count 2 (some .int)) := rfl
set_option maxRecDepth 100000 in
theorem kc_X10_row : lw_tbl[1112]? = some (.code yX10_row cX10_row 2 (some .long)) := rfl
set_option maxRecDepth 100000 in
theorem kc_X10_readRule : lw_tbl[563]? = some (.code yX10_readRule cX10_readRule 2 (some .int)) := rfl
set_option maxRecDepth 100000 in
theorem kc_X10_badEveningSign : lw_tbl[714]? = some (.code yX10_badEveningSign cX10_badEveningSign 4 (some .int)) := rfl
set_option maxRecDepth 100000 in
theorem kc_X10_actSigns : lw_tbl[719]? = some (.code yX10_actSigns cX10_actSigns 1 (some .int)) := rfl
set_option maxRecDepth 100000 in
theorem kc_X10_standsInAct : lw_tbl[722]? = some (.code yX10_standsInAct cX10_standsInAct 4 (some .boolean)) := rfl
set_option maxRecDepth 100000 in
theorem kc_X10_kindOf : lw_tbl[725]? = some (.code yX10_kindOf cX10_kindOf 1 (some .int)) := rfl
set_option maxRecDepth 100000 in
theorem kc_X10_act : lw_tbl[731]? = some (.code yX10_act cX10_act 6 (some .boolean)) := rfl
set_option maxRecDepth 100000 in
theorem kc_X10_liveOn : lw_tbl[991]? = some (.code yX10_liveOn cX10_liveOn 5 none) := rfl
set_option maxRecDepth 100000 in
theorem kc_X10_isMore : lw_tbl[877]? = some (.code yX10_isMore cX10_isMore 4 (some .boolean)) := rfl
set_option maxRecDepth 100000 in
theorem kc_X10_isBestAgainst : lw_tbl[976]? = some (.code yX10_isBestAgainst cX10_isBestAgainst 4 (some .boolean)) := rfl
set_option maxRecDepth 100000 in
theorem kc_X10_candleGain : lw_tbl[979]? = some (.code yX10_candleGain cX10_candleGain 4 (some .int)) := rfl
set_option maxRecDepth 100000 in
theorem kc_X10_orNobody : lw_tbl[702]? = some (.code yX10_orNobody cX10_orNobody 1 (some .int)) := rfl
set_option maxRecDepth 100000 in
theorem kc_X10_isThing : lw_tbl[547]? = some (.code yX10_isThing cX10_isThing 1 (some .boolean)) := rfl
set_option maxRecDepth 100000 in
theorem kc_X10_areThings : lw_tbl[777]? = some (.code yX10_areThings cX10_areThings 1 (some .boolean)) := rfl
set_option maxRecDepth 100000 in
theorem kc_X10_isLength : lw_tbl[528]? = some (.code yX10_isLength cX10_isLength 1 (some .boolean)) := rfl
set_option maxRecDepth 100000 in
theorem kc_X10_isDigit : lw_tbl[424]? = some (.code yX10_isDigit cX10_isDigit 1 (some .boolean)) := rfl
set_option maxRecDepth 100000 in
theorem kc_X10_firstOf : lw_tbl[690]? = some (.code yX10_firstOf cX10_firstOf 2 (some .int)) := rfl
set_option maxRecDepth 100000 in
theorem kc_X10_sumOf : lw_tbl[535]? = some (.code yX10_sumOf cX10_sumOf 6 (some .int)) := rfl
set_option maxRecDepth 100000 in
theorem kc_X10_power : lw_tbl[909]? = some (.code yX10_power cX10_power 6 (some .long)) := rfl
set_option maxRecDepth 100000 in
theorem kc_X11_thrown : lw_tbl[1117]? = some (.code yX11_thrown cX11_thrown 1 (some .int)) := rfl
set_option maxRecDepth 100000 in
theorem kc_X11_refuse : lw_tbl[1370]? = some (.code yX11_refuse cX11_refuse 1 (some .int)) := rfl
set_option maxRecDepth 100000 in
theorem kc_X11_in : lw_tbl[1276]? = some (.code yX11_in cX11_in 6 (some .boolean)) := rfl
set_option maxRecDepth 100000 in
theorem kc_X11_has : lw_tbl[1373]? = some (.code yX11_has cX11_has 2 (some .boolean)) := rfl
set_option maxRecDepth 100000 in
theorem kc_X11_flag : lw_tbl[1311]? = some (.code yX11_flag cX11_flag 1 (some .int)) := rfl
set_option maxRecDepth 100000 in
theorem kc_X11_common : lw_tbl[1604]? = some (.code yX11_common cX11_common 4 (some .long)) := rfl
set_option maxRecDepth 100000 in
theorem kc_X11_enters : lw_tbl[1469]? = some (.code yX11_enters cX11_enters 3 none) := rfl
set_option maxRecDepth 100000 in
theorem kc_X11_tellsFraction : lw_tbl[1601]? = some (.code yX11_tellsFraction cX11_tellsFraction 7 none) := rfl
set_option maxRecDepth 100000 in
theorem kc_X11_init : lw_tbl[1122]? = some (.code yX11_init cX11_init 2 none) := rfl
set_option maxRecDepth 100000 in
theorem kc_X11_isMan : lw_tbl[1365]? = some (.code yX11_isMan cX11_isMan 2 (some .boolean)) := rfl
set_option maxRecDepth 100000 in
theorem kc_X11_isThing : lw_tbl[1400]? = some (.code yX11_isThing cX11_isThing 1 (some .boolean)) := rfl
set_option maxRecDepth 100000 in
theorem kc_X11_able : lw_tbl[1381]? = some (.code yX11_able cX11_able 4 (some .int)) := rfl
set_option maxRecDepth 100000 in
theorem kc_X11_canSay : lw_tbl[1377]? = some (.code yX11_canSay cX11_canSay 3 (some .int)) := rfl
set_option maxRecDepth 100000 in
theorem kc_X11_sumOf : lw_tbl[1672]? = some (.code yX11_sumOf cX11_sumOf 5 (some .int)) := rfl
set_option maxRecDepth 100000 in
theorem kc_X11_sign : lw_tbl[1269]? = some (.code yX11_sign cX11_sign 3 (some .int)) := rfl
set_option maxRecDepth 100000 in
theorem kc_X11_end : lw_tbl[1273]? = some (.code yX11_end cX11_end 2 (some .boolean)) := rfl
set_option maxRecDepth 100000 in
theorem kc_X11_begins : lw_tbl[1284]? = some (.code yX11_begins cX11_begins 3 (some .int)) := rfl
set_option maxRecDepth 100000 in
theorem kc_X11_takes : lw_tbl[1315]? = some (.code yX11_takes cX11_takes 3 (some .boolean)) := rfl
set_option maxRecDepth 100000 in
theorem kc_X11_isDigit : lw_tbl[1343]? = some (.code yX11_isDigit cX11_isDigit 1 (some .boolean)) := rfl
set_option maxRecDepth 100000 in
theorem kc_X11_among : lw_tbl[1302]? = some (.code yX11_among cX11_among 3 (some .int)) := rfl
set_option maxRecDepth 100000 in
theorem kc_X11_takesOf : lw_tbl[1308]? = some (.code yX11_takesOf cX11_takesOf 3 (some .int)) := rfl
set_option maxRecDepth 100000 in
theorem kc_X11_number : lw_tbl[1349]? = some (.code yX11_number cX11_number 4 (some .int)) := rfl
set_option maxRecDepth 100000 in
theorem kc_X11_digitIn : lw_tbl[1289]? = some (.code yX11_digitIn cX11_digitIn 3 (some .int)) := rfl
set_option maxRecDepth 100000 in
theorem kc_X11_faultOf : lw_tbl[1319]? = some (.code yX11_faultOf cX11_faultOf 5 (some .int)) := rfl
set_option maxRecDepth 100000 in
theorem kc_X11_lengths : lw_tbl[1280]? = some (.code yX11_lengths cX11_lengths 4 (some .int)) := rfl
set_option maxRecDepth 100000 in
theorem kc_X11_readsMan : lw_tbl[1297]? = some (.code yX11_readsMan cX11_readsMan 3 (some .boolean)) := rfl
set_option maxRecDepth 100000 in
theorem kc_X11_council : lw_tbl[1293]? = some (.code yX11_council cX11_council 6 (some .int)) := rfl
set_option maxRecDepth 100000 in
theorem kc_X11_codes : lw_tbl[1339]? = some (.code yX11_codes cX11_codes 2 none) := rfl
set_option maxRecDepth 100000 in
theorem kc_X11_readsThing : lw_tbl[1335]? = some (.code yX11_readsThing cX11_readsThing 2 (some .boolean)) := rfl
set_option maxRecDepth 100000 in
theorem kc_X11_readsRank : lw_tbl[1331]? = some (.code yX11_readsRank cX11_readsRank 4 (some .boolean)) := rfl
set_option maxRecDepth 100000 in
theorem kc_X11_readsRule : lw_tbl[1327]? = some (.code yX11_readsRule cX11_readsRule 3 (some .int)) := rfl
set_option maxRecDepth 100000 in
theorem kc_X11_laysCode : lw_tbl[1357]? = some (.code yX11_laysCode cX11_laysCode 4 none) := rfl
set_option maxRecDepth 100000 in
theorem kc_X11_rule : lw_tbl[1323]? = some (.code yX11_rule cX11_rule 2 (some .int)) := rfl
set_option maxRecDepth 100000 in
theorem kc_X11_worked : lw_tbl[1393]? = some (.code yX11_worked cX11_worked 3 (some .int)) := rfl
set_option maxRecDepth 100000 in
theorem kc_X11_ruled : lw_tbl[1390]? = some (.code yX11_ruled cX11_ruled 4 (some .int)) := rfl
set_option maxRecDepth 100000 in
theorem kc_X11_eager : lw_tbl[1385]? = some (.code yX11_eager cX11_eager 3 (some .int)) := rfl
set_option maxRecDepth 100000 in
theorem kc_X11_man : lw_tbl[1361]? = some (.code yX11_man cX11_man 3 (some .int)) := rfl
set_option maxRecDepth 100000 in
theorem kc_X11_thing : lw_tbl[1397]? = some (.code yX11_thing cX11_thing 5 (some .int)) := rfl
set_option maxRecDepth 100000 in
theorem kc_X11_sheet : lw_tbl[1406]? = some (.code yX11_sheet cX11_sheet 9 (some .int)) := rfl
set_option maxRecDepth 100000 in
theorem kc_X11_putsBy : lw_tbl[1420]? = some (.code yX11_putsBy cX11_putsBy 2 none) := rfl
set_option maxRecDepth 100000 in
theorem kc_X11_adds : lw_tbl[1444]? = some (.code yX11_adds cX11_adds 3 (some .int)) := rfl
set_option maxRecDepth 100000 in
theorem kc_X11_counted : lw_tbl[1440]? = some (.code yX11_counted cX11_counted 2 (some .int)) := rfl
set_option maxRecDepth 100000 in
theorem kc_X11_undo : lw_tbl[1412]? = some (.code yX11_undo cX11_undo 2 (some .int)) := rfl
set_option maxRecDepth 100000 in
theorem kc_X11_passes : lw_tbl[1436]? = some (.code yX11_passes cX11_passes 4 none) := rfl
set_option maxRecDepth 100000 in
theorem kc_X11_isPlainOf : lw_tbl[1432]? = some (.code yX11_isPlainOf cX11_isPlainOf 2 (some .boolean)) := rfl
set_option maxRecDepth 100000 in
theorem kc_X11_canTalk : lw_tbl[1429]? = some (.code yX11_canTalk cX11_canTalk 6 (some .boolean)) := rfl
set_option maxRecDepth 100000 in
theorem kc_X11_talks : lw_tbl[1424]? = some (.code yX11_talks cX11_talks 7 (some .int)) := rfl
set_option maxRecDepth 100000 in
theorem kc_X11_speaker : lw_tbl[1461]? = some (.code yX11_speaker cX11_speaker 4 (some .int)) := rfl
set_option maxRecDepth 100000 in
theorem kc_X11_turnGoes : lw_tbl[1457]? = some (.code yX11_turnGoes cX11_turnGoes 3 none) := rfl
set_option maxRecDepth 100000 in
theorem kc_X11_goesOn : lw_tbl[1453]? = some (.code yX11_goesOn cX11_goesOn 4 none) := rfl
set_option maxRecDepth 100000 in
theorem kc_X11_orNobody : lw_tbl[1472]? = some (.code yX11_orNobody cX11_orNobody 1 (some .int)) := rfl
set_option maxRecDepth 100000 in
theorem kc_X11_talk : lw_tbl[1416]? = some (.code yX11_talk cX11_talk 4 (some .int)) := rfl
set_option maxRecDepth 100000 in
theorem kc_X11_turn : lw_tbl[1448]? = some (.code yX11_turn cX11_turn 2 (some .int)) := rfl
set_option maxRecDepth 100000 in
theorem kc_X11_midnight : lw_tbl[1476]? = some (.code yX11_midnight cX11_midnight 3 (some .int)) := rfl
set_option maxRecDepth 100000 in
theorem kc_X11_readsAct : lw_tbl[1484]? = some (.code yX11_readsAct cX11_readsAct 2 (some .boolean)) := rfl
set_option maxRecDepth 100000 in
theorem kc_X11_does : lw_tbl[1489]? = some (.code yX11_does cX11_does 3 (some .boolean)) := rfl
set_option maxRecDepth 100000 in
theorem kc_X11_evening : lw_tbl[1480]? = some (.code yX11_evening cX11_evening 5 (some .int)) := rfl
set_option maxRecDepth 100000 in
theorem kc_X11_copies : lw_tbl[1502]? = some (.code yX11_copies cX11_copies 2 none) := rfl
set_option maxRecDepth 100000 in
theorem kc_X11_next : lw_tbl[1493]? = some (.code yX11_next cX11_next 2 (some .int)) := rfl
set_option maxRecDepth 100000 in
theorem kc_X11_ahead : lw_tbl[1497]? = some (.code yX11_ahead cX11_ahead 2 (some .int)) := rfl
set_option maxRecDepth 100000 in
theorem kc_X11_strikes : lw_tbl[1506]? = some (.code yX11_strikes cX11_strikes 2 (some .int)) := rfl
set_option maxRecDepth 100000 in
theorem kc_X11_pays : lw_tbl[1510]? = some (.code yX11_pays cX11_pays 4 (some .int)) := rfl
set_option maxRecDepth 100000 in
theorem kc_X11_when : lw_tbl[1515]? = some (.code yX11_when cX11_when 3 (some .int)) := rfl
set_option maxRecDepth 100000 in
theorem kc_X11_vote : lw_tbl[1520]? = some (.code yX11_vote cX11_vote 4 (some .int)) := rfl
set_option maxRecDepth 100000 in
theorem kc_X11_mute : lw_tbl[1524]? = some (.code yX11_mute cX11_mute 4 (some .int)) := rfl
set_option maxRecDepth 100000 in
theorem kc_X11_place : lw_tbl[1536]? = some (.code yX11_place cX11_place 2 (some .int)) := rfl
set_option maxRecDepth 100000 in
theorem kc_X11_goesBy : lw_tbl[1541]? = some (.code yX11_goesBy cX11_goesBy 7 (some .int)) := rfl
set_option maxRecDepth 100000 in
theorem kc_X11_laysYet : lw_tbl[1533]? = some (.code yX11_laysYet cX11_laysYet 9 none) := rfl
set_option maxRecDepth 100000 in
theorem kc_X11_order : lw_tbl[1528]? = some (.code yX11_order cX11_order 9 (some .int)) := rfl
set_option maxRecDepth 100000 in
theorem kc_X11_isFewer : lw_tbl[1548]? = some (.code yX11_isFewer cX11_isFewer 2 (some .boolean)) := rfl
set_option maxRecDepth 100000 in
theorem kc_X11_cover : lw_tbl[1545]? = some (.code yX11_cover cX11_cover 6 (some .int)) := rfl
set_option maxRecDepth 100000 in
theorem kc_X11_sharesFrom : lw_tbl[1556]? = some (.code yX11_sharesFrom cX11_sharesFrom 5 none) := rfl
set_option maxRecDepth 100000 in
theorem kc_X11_shares : lw_tbl[1552]? = some (.code yX11_shares cX11_shares 2 (some .int)) := rfl
set_option maxRecDepth 100000 in
theorem kc_X11_longOf : lw_tbl[1564]? = some (.code yX11_longOf cX11_longOf 4 (some .int)) := rfl
set_option maxRecDepth 100000 in
theorem kc_X11_most : lw_tbl[1560]? = some (.code yX11_most cX11_most 7 (some .int)) := rfl
set_option maxRecDepth 100000 in
theorem kc_X11_fro : lw_tbl[1568]? = some (.code yX11_fro cX11_fro 10 (some .int)) := rfl
set_option maxRecDepth 100000 in
theorem kc_X11_alike : lw_tbl[1572]? = some (.code yX11_alike cX11_alike 3 (some .int)) := rfl
set_option maxRecDepth 100000 in
theorem kc_X11_rivals : lw_tbl[1576]? = some (.code yX11_rivals cX11_rivals 7 (some .int)) := rfl
set_option maxRecDepth 100000 in
theorem kc_X11_laysGame : lw_tbl[1585]? = some (.code yX11_laysGame cX11_laysGame 5 none) := rfl
set_option maxRecDepth 100000 in
theorem kc_X11_game : lw_tbl[1580]? = some (.code yX11_game cX11_game 4 (some .int)) := rfl
set_option maxRecDepth 100000 in
theorem kc_X11_wins : lw_tbl[1589]? = some (.code yX11_wins cX11_wins 6 (some .int)) := rfl
set_option maxRecDepth 100000 in
theorem kc_X11_power : lw_tbl[1597]? = some (.code yX11_power cX11_power 6 (some .long)) := rfl
set_option maxRecDepth 100000 in
theorem kc_X11_silent : lw_tbl[1593]? = some (.code yX11_silent cX11_silent 13 (some .int)) := rfl
set_option maxRecDepth 100000 in
theorem kc_X11_lot : lw_tbl[1608]? = some (.code yX11_lot cX11_lot 9 (some .int)) := rfl
set_option maxRecDepth 100000 in
theorem kc_X11_heard : lw_tbl[1613]? = some (.code yX11_heard cX11_heard 5 (some .int)) := rfl
set_option maxRecDepth 100000 in
theorem kc_X11_forget : lw_tbl[1617]? = some (.code yX11_forget cX11_forget 2 (some .int)) := rfl
set_option maxRecDepth 100000 in
theorem kc_X11_isSo : lw_tbl[1629]? = some (.code yX11_isSo cX11_isSo 4 (some .boolean)) := rfl
set_option maxRecDepth 100000 in
theorem kc_X11_fitting : lw_tbl[1625]? = some (.code yX11_fitting cX11_fitting 5 (some .int)) := rfl
set_option maxRecDepth 100000 in
theorem kc_X11_fits : lw_tbl[1621]? = some (.code yX11_fits cX11_fits 2 (some .int)) := rfl
set_option maxRecDepth 100000 in
theorem kc_X11_ask : lw_tbl[1633]? = some (.code yX11_ask cX11_ask 7 (some .int)) := rfl
set_option maxRecDepth 100000 in
theorem kc_X11_law : lw_tbl[1637]? = some (.code yX11_law cX11_law 5 (some .int)) := rfl
set_option maxRecDepth 100000 in
theorem kc_X11_gets : lw_tbl[1647]? = some (.code yX11_gets cX11_gets 3 (some .int)) := rfl
set_option maxRecDepth 100000 in
theorem kc_X11_isRest : lw_tbl[1644]? = some (.code yX11_isRest cX11_isRest 5 (some .boolean)) := rfl
set_option maxRecDepth 100000 in
theorem kc_X11_rests : lw_tbl[1641]? = some (.code yX11_rests cX11_rests 5 (some .int)) := rfl
set_option maxRecDepth 100000 in
theorem kc_X11_draws : lw_tbl[1655]? = some (.code yX11_draws cX11_draws 2 (some .int)) := rfl
set_option maxRecDepth 100000 in
theorem kc_X11_years : lw_tbl[1651]? = some (.code yX11_years cX11_years 6 (some .int)) := rfl
set_option maxRecDepth 100000 in
theorem kc_X11_keep : lw_tbl[1660]? = some (.code yX11_keep cX11_keep 3 (some .boolean)) := rfl
set_option maxRecDepth 100000 in
theorem kc_X11_again : lw_tbl[1664]? = some (.code yX11_again cX11_again 3 (some .boolean)) := rfl
set_option maxRecDepth 100000 in
theorem kc_X11_count : lw_tbl[1668]? = some (.code yX11_count cX11_count 2 (some .int)) := rfl
set_option maxRecDepth 100000 in
theorem kc_X11_row : lw_tbl[1676]? = some (.code yX11_row cX11_row 2 (some .long)) := rfl
set_option maxRecDepth 100000 in
theorem kc_J6_numberOfTrailingZeros_0f7a4 : lw_tbl[1464]? = some (.code yJ6_numberOfTrailingZeros_0f7a4 cJ6_numberOfTrailingZeros_0f7a4 2 (some .int)) := rfl
set_option maxRecDepth 100000 in
theorem kc_J6_bitCount_0f7a4 : lw_tbl[673]? = some (.code yJ6_bitCount_0f7a4 cJ6_bitCount_0f7a4 1 (some .int)) := rfl
set_option maxRecDepth 100000 in
theorem kc_L_man : lw_tbl[1020]? = some (.codeWith yL_man cL_man 5 (some .int) [(0, 10, 13, 13)]) := rfl
set_option maxRecDepth 100000 in
theorem kc_L_thing : lw_tbl[1094]? = some (.codeWith yL_thing cL_thing 5 (some .int) [(0, 10, 13, 13)]) := rfl
set_option maxRecDepth 100000 in
theorem kc_L_row : lw_tbl[1108]? = some (.codeWith yL_row cL_row 4 (some .int) [(0, 8, 11, 13)]) := rfl
