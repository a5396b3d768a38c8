set_option maxRecDepth 100000 in
theorem lin_25 : ∀ w ∈ wsL_law0_r25, w ∈ lw_tbl := lin_r _ [629, 630, 631, 632, 256, 633, 634, 635, 636, 254, 255, 261, 637, 638, 639, 640, 641, 642, 643, 644, 168, 163, 165, 160] (by decide +kernel)
set_option maxRecDepth 100000 in
theorem lin_26 : ∀ w ∈ wsL_law0_r26, w ∈ lw_tbl := lin_r _ [645, 647, 8, 648, 124, 650, 651, 652, 653, 654, 655, 656, 657, 658, 660, 9, 661, 259, 662, 663, 664, 665, 666, 667] (by decide +kernel)
set_option maxRecDepth 100000 in
theorem lin_27 : ∀ w ∈ wsL_law0_r27, w ∈ lw_tbl := lin_r _ [668, 669, 670, 671, 1358, 1359, 1360, 1361, 1362, 1364, 39, 1365, 1366, 1368, 40, 1369, 1370, 1372, 41, 1373, 1374, 1376, 42, 1377] (by decide +kernel)
set_option maxRecDepth 100000 in
theorem lin_28 : ∀ w ∈ wsL_law0_r28, w ∈ lw_tbl := lin_r _ [1378, 1380, 43, 1381, 672, 673, 674, 675, 676, 677, 678, 679, 680, 681, 682, 683, 684, 685, 686, 687, 1382, 1383, 1384, 1385] (by decide +kernel)
set_option maxRecDepth 100000 in
theorem lin_29 : ∀ w ∈ wsL_law0_r29, w ∈ lw_tbl := lin_r _ [688, 689, 690, 691, 251, 692, 694, 10, 695, 696, 1386, 1387, 1388, 1389, 1390, 1392, 44, 1393, 697, 698, 699, 700, 701, 1394] (by decide +kernel)
set_option maxRecDepth 100000 in
theorem lin_30 : ∀ w ∈ wsL_law0_r30, w ∈ lw_tbl := lin_r _ [1395, 1396, 1397, 702, 703, 704, 705, 706, 707, 708, 709, 710, 711, 712, 713, 719, 714, 715, 716, 717, 718, 1398, 1399, 1400] (by decide +kernel)
set_option maxRecDepth 100000 in
theorem lin_31 : ∀ w ∈ wsL_law0_r31, w ∈ lw_tbl := lin_r _ [1401, 1402, 1404, 45, 1405, 1406, 1408, 46, 1409, 720, 721, 722, 723, 343, 345, 378, 416, 442, 1410, 1411, 1412, 1413, 1057, 1062] (by decide +kernel)
set_option maxRecDepth 100000 in
theorem lin_32 : ∀ w ∈ wsL_law0_r32, w ∈ lw_tbl := lin_r _ [1064, 724, 725, 726, 727, 728, 1414, 1415, 1416, 1417, 729, 730, 731, 732, 333, 733, 734, 735, 736, 737, 738, 739, 740, 741] (by decide +kernel)
set_option maxRecDepth 100000 in
theorem lin_33 : ∀ w ∈ wsL_law0_r33, w ∈ lw_tbl := lin_r _ [742, 743, 744, 745, 746, 747, 748, 749, 750, 751, 752, 753, 754, 755, 756, 757, 758, 759, 760, 761, 762, 763, 1418, 1419] (by decide +kernel)
set_option maxRecDepth 100000 in
theorem lin_34 : ∀ w ∈ wsL_law0_r34, w ∈ lw_tbl := lin_r _ [1420, 1421, 1422, 1424, 47, 1425, 1426, 812, 813, 1427, 1429, 48, 1430, 764, 765, 766, 767, 1431, 1432, 1433, 1434, 768, 769, 770] (by decide +kernel)
set_option maxRecDepth 100000 in
theorem lin_35 : ∀ w ∈ wsL_law0_r35, w ∈ lw_tbl := lin_r _ [771, 335, 1435, 1436, 1437, 1438, 772, 773, 774, 775, 337, 776, 1439, 1440, 1441, 1442, 777, 778, 779, 780, 781, 782, 783, 784] (by decide +kernel)
set_option maxRecDepth 100000 in
theorem lin_36 : ∀ w ∈ wsL_law0_r36, w ∈ lw_tbl := lin_r _ [785, 786, 787, 1443, 1444, 1445, 1446, 1447, 1449, 49, 1450, 1080, 1451, 1453, 50, 1454, 1455, 1457, 51, 1458, 1459, 1461, 52, 1462] (by decide +kernel)
