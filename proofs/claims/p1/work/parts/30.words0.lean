theorem gt_wsX70 : GoodIn lw_tbl wsX70 := goodIn_r _ [338, 340, 342, 344, 346, 348, 350] (by decide +kernel) (by decide +kernel)
theorem gt_wsX00 : GoodIn lw_tbl wsX00 := goodIn_r _ [208, 210, 212, 214] (by decide +kernel) (by decide +kernel)
theorem gt_wsX50 : GoodIn lw_tbl wsX50 := goodIn_r _ [143, 145, 147, 149, 151, 153, 155] (by decide +kernel) (by decide +kernel)
set_option maxRecDepth 20000 in
theorem gt_wsL_addResource : GoodIn lw_tbl wsL_addResource := (goodIn_ca (goodIn_ca (goodIn_ca (goodIn_ca (goodIn_ca (goodIn_ca (goodIn_ca (goodIn_r _ [529, 530, 531, 532, 533, 534, 72, 535, 331, 536, 538, 8, 539, 540, 84, 612, 614, 10, 615, 617, 619, 11, 620, 621, 85, 204, 637, 638, 639, 73, 640, 201, 194, 133, 126, 130, 641, 642, 643, 74, 644, 142, 129, 645, 647, 12, 648, 132, 127] (by decide +kernel) (by decide +kernel)) gt_wsX70) gt_wsX00) gt_wsX50) gt_F1) gt_F6) gt_F3) gt_F0)
theorem gs_L_145_L_addResource : GoodIn lw_tbl (va_wsS RL 145 yL_addResource wsL_addResource) := goodIn_app (goodIn_r _ [527, 528, 71] (by decide +kernel) (by decide +kernel)) gt_wsL_addResource
theorem gt_wsX80 : GoodIn lw_tbl wsX80 := goodIn_r _ [1230, 1232, 1234, 1236, 1238, 1240, 1242, 1244, 1246, 1248, 1250, 1252, 1254, 1256, 1258, 1260, 1262, 1264] (by decide +kernel) (by decide +kernel)
set_option maxRecDepth 20000 in
theorem gt_wsX8_addResource : GoodIn lw_tbl wsX8_addResource := (goodIn_ca (goodIn_ca (goodIn_r _ [1276, 1226, 1277, 1278, 80, 1279, 1280, 1281, 1282, 1283, 1285, 33, 1286, 1229, 1287, 1289, 34, 1290, 1212, 1213, 1214, 1215, 1216] (by decide +kernel) (by decide +kernel)) gt_wsX80) gt_F1)
theorem gv_L_150_X8_addResource : GoodIn lw_tbl (wsV RL 150 RX8 yX8_addResource wsX8_addResource) := goodIn_app (goodIn_r _ [1273, 1274, 1275, 80] (by decide +kernel) (by decide +kernel)) gt_wsX8_addResource
set_option maxRecDepth 20000 in
theorem gt_wsX8_thrown : GoodIn lw_tbl wsX8_thrown := (goodIn_ca (goodIn_r _ [1272, 1229] (by decide +kernel) (by decide +kernel)) gt_wsX80)
theorem gv_L_151_X8_thrown : GoodIn lw_tbl (wsV RL 151 RX8 yX8_thrown wsX8_thrown) := goodIn_app (goodIn_r _ [1269, 1270, 1271, 80] (by decide +kernel) (by decide +kernel)) gt_wsX8_thrown
set_option maxRecDepth 20000 in
theorem gt_wsL_addRoad : GoodIn lw_tbl wsL_addRoad := (goodIn_ca (goodIn_ca (goodIn_ca (goodIn_ca (goodIn_ca (goodIn_ca (goodIn_ca (goodIn_r _ [651, 530, 531, 652, 653, 654, 72, 655, 331, 197, 136, 139, 656, 658, 13, 659, 540, 84, 612, 614, 10, 615, 536, 538, 8, 539, 617, 619, 11, 620, 621, 85, 204, 637, 638, 639, 73, 640, 201, 194, 133, 126, 130, 641, 642, 643, 74, 644, 142, 129, 645, 647, 12, 648, 132, 127] (by decide +kernel) (by decide +kernel)) gt_wsX70) gt_wsX00) gt_wsX50) gt_F1) gt_F6) gt_F3) gt_F0)
theorem gs_L_154_L_addRoad : GoodIn lw_tbl (va_wsS RL 154 yL_addRoad wsL_addRoad) := goodIn_app (goodIn_r _ [649, 650, 71] (by decide +kernel) (by decide +kernel)) gt_wsL_addRoad
set_option maxRecDepth 20000 in
theorem gt_wsX8_addRoad : GoodIn lw_tbl wsX8_addRoad := (goodIn_ca (goodIn_ca (goodIn_r _ [1294, 1226, 1295, 1296, 80, 1297, 1280, 1281, 1282, 1277, 1278, 1279, 1283, 1285, 33, 1286, 1229, 1287, 1289, 34, 1290, 1212, 1213, 1214, 1215, 1216] (by decide +kernel) (by decide +kernel)) gt_wsX80) gt_F1)
theorem gv_L_157_X8_addRoad : GoodIn lw_tbl (wsV RL 157 RX8 yX8_addRoad wsX8_addRoad) := goodIn_app (goodIn_r _ [1291, 1292, 1293, 80] (by decide +kernel) (by decide +kernel)) gt_wsX8_addRoad
theorem gt_wsX40 : GoodIn lw_tbl wsX40 := goodIn_r _ [180, 182, 184, 186, 188, 190] (by decide +kernel) (by decide +kernel)
set_option maxRecDepth 20000 in
theorem gt_wsL_addPlayer : GoodIn lw_tbl wsL_addPlayer := (goodIn_ca (goodIn_ca (goodIn_ca (goodIn_ca (goodIn_ca (goodIn_ca (goodIn_r _ [663, 530, 531, 664, 665, 666, 72, 667, 331, 668, 670, 14, 671, 612, 614, 10, 615, 540, 84, 672, 674, 15, 675, 621, 85, 207, 677, 678, 679, 73, 680, 206, 198, 167, 168] (by decide +kernel) (by decide +kernel)) gt_wsX70) gt_wsX00) gt_wsX40) gt_F1) gt_F6) gt_F3)
theorem gs_L_158_L_addPlayer : GoodIn lw_tbl (va_wsS RL 158 yL_addPlayer wsL_addPlayer) := goodIn_app (goodIn_r _ [661, 662, 71] (by decide +kernel) (by decide +kernel)) gt_wsL_addPlayer
set_option maxRecDepth 20000 in
theorem gt_wsX8_addPlayer : GoodIn lw_tbl wsX8_addPlayer := (goodIn_ca (goodIn_ca (goodIn_r _ [1301, 1227, 1302, 1303, 80, 1304, 1280, 1281, 1282, 1283, 1285, 33, 1286, 1229, 1305, 1307, 35, 1308, 1218, 1219] (by decide +kernel) (by decide +kernel)) gt_wsX80) gt_F1)
theorem gv_L_161_X8_addPlayer : GoodIn lw_tbl (wsV RL 161 RX8 yX8_addPlayer wsX8_addPlayer) := goodIn_app (goodIn_r _ [1298, 1299, 1300, 80] (by decide +kernel) (by decide +kernel)) gt_wsX8_addPlayer
theorem gt_wsX30 : GoodIn lw_tbl wsX30 := goodIn_r _ [234, 236, 238] (by decide +kernel) (by decide +kernel)
set_option maxRecDepth 20000 in
theorem gt_wsL_addWay : GoodIn lw_tbl wsL_addWay := (goodIn_ca (goodIn_ca (goodIn_ca (goodIn_ca (goodIn_ca (goodIn_ca (goodIn_ca (goodIn_ca (goodIn_ca (goodIn_r _ [683, 684, 530, 708, 531, 709, 710, 711, 72, 712, 540, 84, 735, 89, 621, 85, 331, 204, 332, 232, 200, 175, 713, 715, 16, 716, 717, 86, 207, 731, 732, 733, 75, 734, 172, 176, 752, 753, 754, 73, 755, 198, 174, 177, 756, 484, 485, 486, 225, 201, 228, 167, 361, 362, 363, 364, 366, 367] (by decide +kernel) (by decide +kernel)) gt_wsX70) gt_wsX00) gt_wsX30) gt_wsX40) gt_F1) gt_F6) gt_F2) gt_F3) gt_F5)
theorem gs_L_162_L_addWay : GoodIn lw_tbl (va_wsS RL 162 yL_addWay wsL_addWay) := goodIn_app (goodIn_r _ [681, 682, 71] (by decide +kernel) (by decide +kernel)) gt_wsL_addWay
set_option maxRecDepth 20000 in
theorem gt_wsX8_addWay : GoodIn lw_tbl wsX8_addWay := (goodIn_ca (goodIn_ca (goodIn_r _ [1312, 1226, 1222, 1221, 1225, 1313, 1315, 36, 80, 1316, 1227, 1280, 1281, 1282, 1283, 1285, 33, 1286, 1229, 1317, 1319, 37, 1320, 1224, 1321, 382, 90, 383] (by decide +kernel) (by decide +kernel)) gt_wsX80) gt_F1)
theorem gv_L_164_X8_addWay : GoodIn lw_tbl (wsV RL 164 RX8 yX8_addWay wsX8_addWay) := goodIn_app (goodIn_r _ [1309, 1310, 1311, 80] (by decide +kernel) (by decide +kernel)) gt_wsX8_addWay
set_option maxRecDepth 20000 in
theorem gt_wsL_countWays : GoodIn lw_tbl wsL_countWays := (goodIn_ca (goodIn_ca (goodIn_ca (goodIn_ca (goodIn_ca (goodIn_r _ [792, 684, 793, 794, 795, 72, 796, 331, 200, 175, 713, 715, 16, 716, 717, 86, 207] (by decide +kernel) (by decide +kernel)) gt_wsX70) gt_wsX00) gt_wsX40) gt_F1) gt_F5)
theorem gs_L_169_L_countWays : GoodIn lw_tbl (va_wsS RL 169 yL_countWays wsL_countWays) := goodIn_app (goodIn_r _ [790, 791, 71] (by decide +kernel) (by decide +kernel)) gt_wsL_countWays
set_option maxRecDepth 20000 in
theorem gt_wsX8_countWays : GoodIn lw_tbl wsX8_countWays := (goodIn_ca (goodIn_ca (goodIn_r _ [1471, 1222, 1313, 1315, 36, 80, 1316, 1227, 1280, 1281, 1282, 1283, 1285, 33, 1286, 1229] (by decide +kernel) (by decide +kernel)) gt_wsX80) gt_F1)
theorem gv_L_172_X8_countWays : GoodIn lw_tbl (wsV RL 172 RX8 yX8_countWays wsX8_countWays) := goodIn_app (goodIn_r _ [1468, 1469, 1470, 80] (by decide +kernel) (by decide +kernel)) gt_wsX8_countWays
set_option maxRecDepth 20000 in
theorem gt_wsL_getWay : GoodIn lw_tbl wsL_getWay := (goodIn_ca (goodIn_ca (goodIn_ca (goodIn_ca (goodIn_ca (goodIn_r _ [799, 684, 800, 801, 802, 72, 803, 331, 200, 804, 806, 18, 807, 717, 86, 175, 713, 715, 16, 716, 207, 809, 362, 363, 75, 364, 172, 176] (by decide +kernel) (by decide +kernel)) gt_wsX70) gt_wsX00) gt_wsX40) gt_F1) gt_F5)
theorem gs_L_173_L_getWay : GoodIn lw_tbl (va_wsS RL 173 yL_getWay wsL_getWay) := goodIn_app (goodIn_r _ [797, 798, 71] (by decide +kernel) (by decide +kernel)) gt_wsL_getWay
set_option maxRecDepth 20000 in
theorem gt_wsX8_getWay : GoodIn lw_tbl wsX8_getWay := (goodIn_ca (goodIn_ca (goodIn_r _ [1475, 1221, 1476, 1478, 42, 80, 1479, 1222, 1313, 1315, 36, 1316, 1227, 1280, 1281, 1282, 1283, 1285, 33, 1286, 1229] (by decide +kernel) (by decide +kernel)) gt_wsX80) gt_F1)
theorem gv_L_175_X8_getWay : GoodIn lw_tbl (wsV RL 175 RX8 yX8_getWay wsX8_getWay) := goodIn_app (goodIn_r _ [1472, 1473, 1474, 80] (by decide +kernel) (by decide +kernel)) gt_wsX8_getWay
set_option maxRecDepth 20000 in
theorem gt_wsL_choose : GoodIn lw_tbl wsL_choose := (goodIn_ca (goodIn_ca (goodIn_ca (goodIn_ca (goodIn_ca (goodIn_ca (goodIn_ca (goodIn_r _ [812, 684, 708, 813, 814, 815, 72, 816, 735, 89, 331, 332, 226, 804, 806, 18, 807, 717, 86, 200, 175, 713, 715, 16, 716, 207, 817, 419, 420, 73, 421, 198, 233, 361, 362, 363, 75, 364, 172, 176, 819, 484, 485, 486, 225, 201, 228, 167, 366, 367] (by decide +kernel) (by decide +kernel)) gt_wsX70) gt_wsX30) gt_wsX00) gt_wsX40) gt_F1) gt_F2) gt_F5)
theorem gs_L_176_L_choose : GoodIn lw_tbl (va_wsS RL 176 yL_choose wsL_choose) := goodIn_app (goodIn_r _ [810, 811, 71] (by decide +kernel) (by decide +kernel)) gt_wsL_choose
set_option maxRecDepth 20000 in
theorem gt_wsX8_choose : GoodIn lw_tbl wsX8_choose := (goodIn_ca (goodIn_ca (goodIn_r _ [1483, 1224, 1476, 1478, 42, 80, 1479, 1222, 1313, 1315, 36, 1316, 1227, 1280, 1281, 1282, 1283, 1285, 33, 1286, 1229, 1484, 1486, 43, 1487, 1221, 1225] (by decide +kernel) (by decide +kernel)) gt_wsX80) gt_F1)
theorem gv_L_178_X8_choose : GoodIn lw_tbl (wsV RL 178 RX8 yX8_choose wsX8_choose) := goodIn_app (goodIn_r _ [1480, 1481, 1482, 80] (by decide +kernel) (by decide +kernel)) gt_wsX8_choose
set_option maxRecDepth 20000 in
theorem gt_wsL_getChosen : GoodIn lw_tbl wsL_getChosen := (goodIn_ca (goodIn_ca (goodIn_ca (goodIn_ca (goodIn_ca (goodIn_r _ [822, 684, 823, 824, 825, 72, 826, 332, 226, 713, 715, 16, 716, 717, 86, 331, 207] (by decide +kernel) (by decide +kernel)) gt_wsX70) gt_wsX30) gt_wsX00) gt_F1) gt_F5)
theorem gs_L_179_L_getChosen : GoodIn lw_tbl (va_wsS RL 179 yL_getChosen wsL_getChosen) := goodIn_app (goodIn_r _ [820, 821, 71] (by decide +kernel) (by decide +kernel)) gt_wsL_getChosen
set_option maxRecDepth 20000 in
theorem gt_wsX8_getChosen : GoodIn lw_tbl wsX8_getChosen := (goodIn_ca (goodIn_ca (goodIn_r _ [1491, 1224, 1313, 1315, 36, 80, 1316, 1227, 1280, 1281, 1282, 1283, 1285, 33, 1286, 1229] (by decide +kernel) (by decide +kernel)) gt_wsX80) gt_F1)
theorem gv_L_181_X8_getChosen : GoodIn lw_tbl (wsV RL 181 RX8 yX8_getChosen wsX8_getChosen) := goodIn_app (goodIn_r _ [1488, 1489, 1490, 80] (by decide +kernel) (by decide +kernel)) gt_wsX8_getChosen
set_option maxRecDepth 20000 in
theorem gt_wsL_getLoad : GoodIn lw_tbl wsL_getLoad := (goodIn_ca (goodIn_ca (goodIn_ca (goodIn_ca (goodIn_ca (goodIn_r _ [829, 684, 830, 831, 832, 72, 833, 332, 229, 834, 836, 19, 837, 717, 86, 331, 204] (by decide +kernel) (by decide +kernel)) gt_wsX70) gt_wsX30) gt_wsX00) gt_F1) gt_F5)
theorem gs_L_182_L_getLoad : GoodIn lw_tbl (va_wsS RL 182 yL_getLoad wsL_getLoad) := goodIn_app (goodIn_r _ [827, 828, 71] (by decide +kernel) (by decide +kernel)) gt_wsL_getLoad
set_option maxRecDepth 20000 in
theorem gt_wsX8_getLoad : GoodIn lw_tbl wsX8_getLoad := (goodIn_ca (goodIn_ca (goodIn_r _ [1495, 1224, 1496, 1498, 44, 80, 1499, 1226, 1280, 1281, 1282, 1283, 1285, 33, 1286, 1229, 1500, 1502, 45, 1503, 1227, 1221, 1218] (by decide +kernel) (by decide +kernel)) gt_wsX80) gt_F1)
theorem gv_L_184_X8_getLoad : GoodIn lw_tbl (wsV RL 184 RX8 yX8_getLoad wsX8_getLoad) := goodIn_app (goodIn_r _ [1492, 1493, 1494, 80] (by decide +kernel) (by decide +kernel)) gt_wsX8_getLoad
set_option maxRecDepth 20000 in
theorem gt_wsL_getDelay : GoodIn lw_tbl wsL_getDelay := (goodIn_ca (goodIn_ca (goodIn_ca (goodIn_ca (goodIn_ca (goodIn_ca (goodIn_r _ [841, 684, 530, 842, 843, 844, 72, 845, 331, 197, 834, 836, 19, 837, 717, 86, 204, 612, 614, 10, 615, 540, 84, 846, 369, 370, 74, 371, 142] (by decide +kernel) (by decide +kernel)) gt_wsX70) gt_wsX00) gt_wsX50) gt_F1) gt_F5) gt_F6)
theorem gs_L_185_L_getDelay : GoodIn lw_tbl (va_wsS RL 185 yL_getDelay wsL_getDelay) := goodIn_app (goodIn_r _ [839, 840, 71] (by decide +kernel) (by decide +kernel)) gt_wsL_getDelay
set_option maxRecDepth 20000 in
theorem gt_wsX8_getDelay : GoodIn lw_tbl wsX8_getDelay := (goodIn_ca (goodIn_ca (goodIn_ca (goodIn_r _ [1507, 1496, 1498, 44, 80, 1499, 1226, 1280, 1281, 1282, 1283, 1285, 33, 1286, 1229, 1508, 1510, 46, 1511, 1213, 1212, 1214] (by decide +kernel) (by decide +kernel)) gt_wsX80) gt_F1) gt_F0)
