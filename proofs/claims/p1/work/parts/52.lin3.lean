set_option maxRecDepth 100000 in
theorem lin_37 : ∀ w ∈ wsL_law0_r37, w ∈ lw_tbl := lin_r _ [788, 789, 790, 791, 792, 793, 794, 795, 1463, 1464, 1465, 1466, 796, 797, 798, 799, 341, 800, 801, 802, 803, 804, 805, 806] (by decide +kernel)
set_option maxRecDepth 100000 in
theorem lin_38 : ∀ w ∈ wsL_law0_r38, w ∈ lw_tbl := lin_r _ [814, 807, 809, 11, 810, 811, 816, 817, 818, 819, 820, 821, 438, 1467, 1468, 1469, 1470, 1085, 1471, 1473, 53, 1474, 1475, 1476] (by decide +kernel)
set_option maxRecDepth 100000 in
theorem lin_39 : ∀ w ∈ wsL_law0_r39, w ∈ lw_tbl := lin_r _ [1477, 1478, 1479, 1480, 1481, 1482, 1484, 54, 1485, 1486, 1487, 1488, 1489, 1490, 1491, 1492, 1494, 55, 1495, 1496, 1497, 1498, 1499, 1500] (by decide +kernel)
set_option maxRecDepth 100000 in
theorem lin_40 : ∀ w ∈ wsL_law0_r40, w ∈ lw_tbl := lin_r _ [1501, 1502, 1503, 1505, 56, 1506, 1507, 1509, 57, 1510, 822, 823, 824, 825, 374, 1511, 1512, 1513, 1514, 826, 827, 828, 829, 1515] (by decide +kernel)
set_option maxRecDepth 100000 in
theorem lin_41 : ∀ w ∈ wsL_law0_r41, w ∈ lw_tbl := lin_r _ [1516, 1517, 1518, 830, 831, 832, 833, 834, 835, 836, 837, 377, 439, 838, 839, 81, 840, 841, 842, 843, 844, 846, 12, 847] (by decide +kernel)
set_option maxRecDepth 100000 in
theorem lin_42 : ∀ w ∈ wsL_law0_r42, w ∈ lw_tbl := lin_r _ [848, 850, 13, 851, 852, 1519, 1520, 1521, 1522, 1523, 1524, 1526, 58, 1527, 1528, 1529, 1530, 1531, 1533, 59, 1534, 1535, 1536, 1537] (by decide +kernel)
set_option maxRecDepth 100000 in
theorem lin_43 : ∀ w ∈ wsL_law0_r43, w ∈ lw_tbl := lin_r _ [969, 970, 971, 972, 973, 974, 975, 248, 976, 977, 978, 979, 980, 981, 865, 982, 983, 984, 985, 396, 986, 987, 988, 989] (by decide +kernel)
set_option maxRecDepth 100000 in
theorem lin_44 : ∀ w ∈ wsL_law0_r44, w ∈ lw_tbl := lin_r _ [990, 194, 205, 187, 207, 190, 440, 991, 993, 17, 994, 995, 997, 18, 998, 119, 999, 1000, 1001, 1002, 1003, 1005, 19, 1006] (by decide +kernel)
set_option maxRecDepth 100000 in
theorem lin_45 : ∀ w ∈ wsL_law0_r45, w ∈ lw_tbl := lin_r _ [1007, 1538, 1539, 1540, 1541, 1542, 1544, 1543, 853, 854, 855, 856, 857, 858, 859, 860, 415, 1545, 1546, 1547, 1548, 861, 862, 863] (by decide +kernel)
set_option maxRecDepth 100000 in
theorem lin_46 : ∀ w ∈ wsL_law0_r46, w ∈ lw_tbl := lin_r _ [864, 866, 867, 868, 869, 193, 118, 873, 870, 871, 872, 874, 875, 876, 877, 131, 441, 878, 879, 881, 14, 882, 883, 885] (by decide +kernel)
set_option maxRecDepth 100000 in
theorem lin_47 : ∀ w ∈ wsL_law0_r47, w ∈ lw_tbl := lin_r _ [15, 886, 110, 114, 887, 888, 1549, 1550, 1551, 1552, 1553, 1555, 60, 1556, 1008, 1009, 1010, 1011, 1012, 1013, 1014, 437, 1557, 1558] (by decide +kernel)
set_option maxRecDepth 100000 in
theorem lin_48 : ∀ w ∈ wsL_law0_r48, w ∈ lw_tbl := lin_r _ [1559, 1560] (by decide +kernel)
