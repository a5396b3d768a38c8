set_option maxRecDepth 100000 in
theorem lin_13 : ∀ w ∈ wsL_law0_r13, w ∈ lw_tbl := lin_r _ [22, 1240, 1241, 1243, 23, 1244, 524, 525, 526, 527, 195, 132, 528, 529, 530, 531, 130, 1245, 1246, 1247, 1248, 532, 533, 534] (by decide +kernel)
set_option maxRecDepth 100000 in
theorem lin_14 : ∀ w ∈ wsL_law0_r14, w ∈ lw_tbl := lin_r _ [535, 536, 537, 538, 539, 540, 541, 200, 203, 204, 1249, 1250, 1251, 1252, 1253, 1254, 542, 543, 544, 545, 123, 262, 546, 548] (by decide +kernel)
set_option maxRecDepth 100000 in
theorem lin_15 : ∀ w ∈ wsL_law0_r15, w ∈ lw_tbl := lin_r _ [3, 549, 550, 551, 552, 553, 554, 555, 556, 557, 558, 559, 560, 1255, 1256, 1257, 1258, 1259, 1261, 24, 1262, 1263, 1265, 25] (by decide +kernel)
set_option maxRecDepth 100000 in
theorem lin_16 : ∀ w ∈ wsL_law0_r16, w ∈ lw_tbl := lin_r _ [1266, 1070, 1071, 1267, 1269, 26, 1270, 1277, 1279, 1271, 1273, 27, 1274, 1275, 1276, 1281, 1283, 28, 1284, 1285, 1287, 29, 1288, 1289] (by decide +kernel)
set_option maxRecDepth 100000 in
theorem lin_17 : ∀ w ∈ wsL_law0_r17, w ∈ lw_tbl := lin_r _ [1291, 30, 1292, 1293, 1295, 31, 1296, 1297, 1299, 32, 1300, 1301, 1302, 1304, 33, 1305, 1045, 561, 562, 563, 564, 129, 126, 1306] (by decide +kernel)
set_option maxRecDepth 100000 in
theorem lin_18 : ∀ w ∈ wsL_law0_r18, w ∈ lw_tbl := lin_r _ [1307, 1308, 1309, 565, 566, 567, 568, 258, 260, 1310, 1311, 1312, 1313, 1044, 889, 890, 61, 891, 892, 893, 894, 895, 896, 897] (by decide +kernel)
set_option maxRecDepth 100000 in
theorem lin_19 : ∀ w ∈ wsL_law0_r19, w ∈ lw_tbl := lin_r _ [79, 206, 209, 202, 211, 197, 167, 958, 959, 960, 961, 1314, 1315, 1316, 1317, 1318, 1320, 34, 1321, 1215, 1216, 1217, 1218, 962] (by decide +kernel)
set_option maxRecDepth 100000 in
theorem lin_20 : ∀ w ∈ wsL_law0_r20, w ∈ lw_tbl := lin_r _ [963, 964, 965, 966, 967, 968, 185, 188, 191, 1322, 1323, 1324, 1325, 569, 570, 571, 572, 121, 112, 1326, 1327, 1328, 1329, 573] (by decide +kernel)
set_option maxRecDepth 100000 in
theorem lin_21 : ∀ w ∈ wsL_law0_r21, w ∈ lw_tbl := lin_r _ [574, 575, 576, 294, 577, 578, 579, 580, 292, 1330, 1331, 1332, 1333, 1049, 581, 582, 583, 584, 1334, 1335, 1336, 1337, 585, 586] (by decide +kernel)
set_option maxRecDepth 100000 in
theorem lin_22 : ∀ w ∈ wsL_law0_r22, w ∈ lw_tbl := lin_r _ [587, 588, 589, 590, 591, 592, 309, 593, 594, 595, 293, 291, 596, 597, 598, 599, 600, 601, 603, 604, 605, 606, 608, 4] (by decide +kernel)
set_option maxRecDepth 100000 in
theorem lin_23 : ∀ w ∈ wsL_law0_r23, w ∈ lw_tbl := lin_r _ [609, 610, 612, 5, 613, 614, 616, 6, 617, 618, 619, 620, 621, 623, 7, 624, 625, 166, 169, 161, 626, 628, 627, 80] (by decide +kernel)
set_option maxRecDepth 100000 in
theorem lin_24 : ∀ w ∈ wsL_law0_r24, w ∈ lw_tbl := lin_r _ [164, 1338, 1339, 1340, 1341, 1072, 1073, 1075, 1342, 1344, 35, 1345, 1346, 1348, 36, 1349, 1350, 1352, 37, 1353, 1354, 1356, 38, 1357] (by decide +kernel)
