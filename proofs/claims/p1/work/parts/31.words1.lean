theorem gv_L_187_X8_getDelay : GoodIn lw_tbl (wsV RL 187 RX8 yX8_getDelay wsX8_getDelay) := goodIn_app (goodIn_r _ [1504, 1505, 1506, 80] (by decide +kernel) (by decide +kernel)) gt_wsX8_getDelay
set_option maxRecDepth 20000 in
theorem gt_wsL_getCost : GoodIn lw_tbl wsL_getCost := (goodIn_ca (goodIn_ca (goodIn_ca (goodIn_ca (goodIn_ca (goodIn_ca (goodIn_ca (goodIn_r _ [849, 684, 850, 851, 852, 72, 853, 331, 332, 713, 715, 16, 716, 717, 86, 207, 451, 407, 408, 73, 409, 225, 410, 411, 412, 413, 198, 201, 228, 167, 194, 140, 168, 361, 362, 363, 75, 364, 172, 176, 366, 367, 368, 369, 370, 74, 371, 142] (by decide +kernel) (by decide +kernel)) gt_wsX70) gt_wsX00) gt_wsX30) gt_wsX40) gt_wsX50) gt_F1) gt_F5)
theorem gs_L_188_L_getCost : GoodIn lw_tbl (va_wsS RL 188 yL_getCost wsL_getCost) := goodIn_app (goodIn_r _ [847, 848, 71] (by decide +kernel) (by decide +kernel)) gt_wsL_getCost
set_option maxRecDepth 20000 in
theorem gt_wsX8_getCost : GoodIn lw_tbl wsX8_getCost := (goodIn_ca (goodIn_ca (goodIn_ca (goodIn_r _ [1515, 1224, 1313, 1315, 36, 80, 1316, 1227, 1280, 1281, 1282, 1283, 1285, 33, 1286, 1229, 1516, 1518, 47, 1519, 1226, 1221, 1217, 1219, 1500, 1502, 45, 1503, 1218, 1508, 1510, 46, 1511, 1213, 1212, 1214] (by decide +kernel) (by decide +kernel)) gt_wsX80) gt_F1) gt_F0)
theorem gv_L_190_X8_getCost : GoodIn lw_tbl (wsV RL 190 RX8 yX8_getCost wsX8_getCost) := goodIn_app (goodIn_r _ [1512, 1513, 1514, 80] (by decide +kernel) (by decide +kernel)) gt_wsX8_getCost
set_option maxRecDepth 20000 in
theorem gt_wsL_costOf : GoodIn lw_tbl wsL_costOf := (goodIn_ca (goodIn_ca (goodIn_ca (goodIn_ca (goodIn_ca (goodIn_ca (goodIn_ca (goodIn_r _ [856, 684, 857, 858, 859, 72, 860, 331, 332, 804, 806, 18, 807, 717, 86, 200, 175, 713, 715, 16, 716, 207, 861, 411, 412, 73, 413, 198, 225, 201, 228, 167, 194, 140, 168, 361, 362, 363, 75, 364, 172, 176, 366, 367, 368, 369, 370, 74, 371, 142] (by decide +kernel) (by decide +kernel)) gt_wsX70) gt_wsX00) gt_wsX40) gt_wsX30) gt_wsX50) gt_F1) gt_F5)
theorem gs_L_191_L_costOf : GoodIn lw_tbl (va_wsS RL 191 yL_costOf wsL_costOf) := goodIn_app (goodIn_r _ [854, 855, 71] (by decide +kernel) (by decide +kernel)) gt_wsL_costOf
set_option maxRecDepth 20000 in
theorem gt_wsX8_costOf : GoodIn lw_tbl wsX8_costOf := (goodIn_ca (goodIn_ca (goodIn_ca (goodIn_r _ [1523, 1224, 1476, 1478, 42, 80, 1479, 1222, 1313, 1315, 36, 1316, 1227, 1280, 1281, 1282, 1283, 1285, 33, 1286, 1229, 1524, 1525, 1526, 1527, 1528, 1529, 1530, 1531, 1533, 1516, 1518, 47, 1519, 1226, 1221, 1217, 1219, 1500, 1502, 45, 1503, 1218, 1508, 1510, 46, 1511, 1213, 1212, 1214] (by decide +kernel) (by decide +kernel)) gt_wsX80) gt_F1) gt_F0)
theorem gv_L_193_X8_costOf : GoodIn lw_tbl (wsV RL 193 RX8 yX8_costOf wsX8_costOf) := goodIn_app (goodIn_r _ [1520, 1521, 1522, 80] (by decide +kernel) (by decide +kernel)) gt_wsX8_costOf
set_option maxRecDepth 20000 in
theorem gt_wsX7_getTotal : GoodIn lw_tbl wsX7_getTotal := (goodIn_ca (goodIn_ca (goodIn_ca (goodIn_ca (goodIn_ca (goodIn_ca (goodIn_r _ [356, 331, 332, 357, 358, 359, 73, 360, 206, 198, 225, 201, 167, 194, 228, 361, 362, 363, 75, 364, 172, 176, 366, 72, 367, 368, 369, 370, 74, 371, 142] (by decide +kernel) (by decide +kernel)) gt_wsX70) gt_wsX00) gt_wsX30) gt_wsX40) gt_wsX50) gt_F1)
theorem gv_L_194_X7_getTotal : GoodIn lw_tbl (wsV RL 194 RX7 yX7_getTotal wsX7_getTotal) := goodIn_app (goodIn_r _ [353, 354, 355, 72] (by decide +kernel) (by decide +kernel)) gt_wsX7_getTotal
set_option maxRecDepth 20000 in
theorem gt_wsX8_getTotal : GoodIn lw_tbl wsX8_getTotal := (goodIn_ca (goodIn_ca (goodIn_ca (goodIn_r _ [1537, 1229, 1224, 1538, 1540, 48, 80, 1541, 1227, 1226, 1221, 1218, 1500, 1502, 45, 1503, 1508, 1510, 46, 1511, 1213, 1212, 1214] (by decide +kernel) (by decide +kernel)) gt_wsX80) gt_F1) gt_F0)
theorem gv_L_197_X8_getTotal : GoodIn lw_tbl (wsV RL 197 RX8 yX8_getTotal wsX8_getTotal) := goodIn_app (goodIn_r _ [1534, 1535, 1536, 80] (by decide +kernel) (by decide +kernel)) gt_wsX8_getTotal
set_option maxRecDepth 20000 in
theorem gt_wsL_setToll : GoodIn lw_tbl wsL_setToll := (goodIn_ca (goodIn_ca (goodIn_ca (goodIn_ca (goodIn_ca (goodIn_ca (goodIn_r _ [864, 684, 530, 865, 866, 867, 72, 868, 331, 197, 141, 834, 836, 19, 837, 717, 86, 204, 612, 614, 10, 615, 540, 84] (by decide +kernel) (by decide +kernel)) gt_wsX70) gt_wsX00) gt_wsX50) gt_F1) gt_F5) gt_F6)
theorem gs_L_198_L_setToll : GoodIn lw_tbl (va_wsS RL 198 yL_setToll wsL_setToll) := goodIn_app (goodIn_r _ [862, 863, 71] (by decide +kernel) (by decide +kernel)) gt_wsL_setToll
set_option maxRecDepth 20000 in
theorem gt_wsX8_setToll : GoodIn lw_tbl wsX8_setToll := (goodIn_ca (goodIn_ca (goodIn_r _ [1545, 1217, 1496, 1498, 44, 80, 1499, 1226, 1280, 1281, 1282, 1283, 1285, 33, 1286, 1229] (by decide +kernel) (by decide +kernel)) gt_wsX80) gt_F1)
theorem gv_L_200_X8_setToll : GoodIn lw_tbl (wsV RL 200 RX8 yX8_setToll wsX8_setToll) := goodIn_app (goodIn_r _ [1542, 1543, 1544, 80] (by decide +kernel) (by decide +kernel)) gt_wsX8_setToll
set_option maxRecDepth 20000 in
theorem gt_wsL_getMargin : GoodIn lw_tbl wsL_getMargin := (goodIn_ca (goodIn_ca (goodIn_ca (goodIn_ca (goodIn_ca (goodIn_ca (goodIn_r _ [871, 684, 872, 873, 874, 72, 875, 331, 197, 332, 229, 834, 836, 19, 837, 717, 86, 204, 376, 377, 378, 74, 379, 381, 382, 90, 383, 380, 369, 370, 371, 142] (by decide +kernel) (by decide +kernel)) gt_wsX70) gt_wsX00) gt_wsX30) gt_wsX50) gt_F1) gt_F5)
theorem gs_L_201_L_getMargin : GoodIn lw_tbl (va_wsS RL 201 yL_getMargin wsL_getMargin) := goodIn_app (goodIn_r _ [869, 870, 71] (by decide +kernel) (by decide +kernel)) gt_wsL_getMargin
set_option maxRecDepth 20000 in
theorem gt_wsX8_getMargin : GoodIn lw_tbl wsX8_getMargin := (goodIn_ca (goodIn_ca (goodIn_ca (goodIn_r _ [1549, 1496, 1498, 44, 80, 1499, 1226, 1280, 1281, 1282, 1283, 1285, 33, 1286, 1229, 1550, 1552, 49, 1553, 1224, 1321, 382, 90, 383, 1500, 1502, 45, 1503, 1227, 1221, 1218, 1508, 1510, 46, 1511, 1213, 1212, 1214] (by decide +kernel) (by decide +kernel)) gt_wsX80) gt_F1) gt_F0)
theorem gv_L_203_X8_getMargin : GoodIn lw_tbl (wsV RL 203 RX8 yX8_getMargin wsX8_getMargin) := goodIn_app (goodIn_r _ [1546, 1547, 1548, 80] (by decide +kernel) (by decide +kernel)) gt_wsX8_getMargin
set_option maxRecDepth 20000 in
theorem gt_wsX7_tollByMargins : GoodIn lw_tbl wsX7_tollByMargins := (goodIn_ca (goodIn_ca (goodIn_ca (goodIn_ca (goodIn_ca (goodIn_r _ [375, 331, 204, 197, 332, 229, 384, 385, 90, 386, 141, 376, 377, 378, 74, 379, 381, 382, 383, 380, 369, 370, 371, 142] (by decide +kernel) (by decide +kernel)) gt_wsX70) gt_wsX00) gt_wsX30) gt_wsX50) gt_F1)
theorem gv_L_204_X7_tollByMargins : GoodIn lw_tbl (wsV RL 204 RX7 yX7_tollByMargins wsX7_tollByMargins) := goodIn_app (goodIn_r _ [372, 373, 374, 72] (by decide +kernel) (by decide +kernel)) gt_wsX7_tollByMargins
set_option maxRecDepth 20000 in
theorem gt_wsX8_tollByMargins : GoodIn lw_tbl wsX8_tollByMargins := (goodIn_ca (goodIn_ca (goodIn_ca (goodIn_r _ [1557, 1229, 1226, 1217, 1558, 385, 90, 386, 1550, 1552, 49, 80, 1553, 1224, 1321, 382, 383, 1500, 1502, 45, 1503, 1227, 1221, 1218, 1508, 1510, 46, 1511, 1213, 1212, 1214] (by decide +kernel) (by decide +kernel)) gt_wsX80) gt_F1) gt_F0)
theorem gv_L_207_X8_tollByMargins : GoodIn lw_tbl (wsV RL 207 RX8 yX8_tollByMargins wsX8_tollByMargins) := goodIn_app (goodIn_r _ [1554, 1555, 1556, 80] (by decide +kernel) (by decide +kernel)) gt_wsX8_tollByMargins
set_option maxRecDepth 20000 in
theorem gt_wsL_setMind : GoodIn lw_tbl wsL_setMind := (goodIn_ca (goodIn_ca (goodIn_ca (goodIn_ca (goodIn_ca (goodIn_ca (goodIn_r _ [878, 684, 530, 879, 880, 881, 72, 882, 331, 200, 169, 713, 715, 16, 716, 717, 86, 207, 612, 614, 10, 615, 540, 84] (by decide +kernel) (by decide +kernel)) gt_wsX70) gt_wsX00) gt_wsX40) gt_F1) gt_F5) gt_F6)
theorem gs_L_208_L_setMind : GoodIn lw_tbl (va_wsS RL 208 yL_setMind wsL_setMind) := goodIn_app (goodIn_r _ [876, 877, 71] (by decide +kernel) (by decide +kernel)) gt_wsL_setMind
set_option maxRecDepth 20000 in
theorem gt_wsX8_setMind : GoodIn lw_tbl wsX8_setMind := (goodIn_ca (goodIn_ca (goodIn_r _ [1562, 1219, 1313, 1315, 36, 80, 1316, 1227, 1280, 1281, 1282, 1283, 1285, 33, 1286, 1229] (by decide +kernel) (by decide +kernel)) gt_wsX80) gt_F1)
theorem gv_L_210_X8_setMind : GoodIn lw_tbl (wsV RL 210 RX8 yX8_setMind wsX8_setMind) := goodIn_app (goodIn_r _ [1559, 1560, 1561, 80] (by decide +kernel) (by decide +kernel)) gt_wsX8_setMind
set_option maxRecDepth 20000 in
theorem gt_wsL_lead : GoodIn lw_tbl wsL_lead := (goodIn_ca (goodIn_ca (goodIn_ca (goodIn_ca (goodIn_ca (goodIn_r _ [885, 684, 886, 887, 888, 72, 889, 331, 200, 171, 713, 715, 16, 716, 717, 86, 207] (by decide +kernel) (by decide +kernel)) gt_wsX70) gt_wsX00) gt_wsX40) gt_F1) gt_F5)
theorem gs_L_211_L_lead : GoodIn lw_tbl (va_wsS RL 211 yL_lead wsL_lead) := goodIn_app (goodIn_r _ [883, 884, 71] (by decide +kernel) (by decide +kernel)) gt_wsL_lead
set_option maxRecDepth 20000 in
theorem gt_wsX8_lead : GoodIn lw_tbl wsX8_lead := (goodIn_ca (goodIn_ca (goodIn_r _ [1566, 1220, 1313, 1315, 36, 80, 1316, 1227, 1280, 1281, 1282, 1283, 1285, 33, 1286, 1229] (by decide +kernel) (by decide +kernel)) gt_wsX80) gt_F1)
theorem gv_L_214_X8_lead : GoodIn lw_tbl (wsV RL 214 RX8 yX8_lead wsX8_lead) := goodIn_app (goodIn_r _ [1563, 1564, 1565, 80] (by decide +kernel) (by decide +kernel)) gt_wsX8_lead
set_option maxRecDepth 20000 in
theorem gt_wsL_close : GoodIn lw_tbl wsL_close := (goodIn_ca (goodIn_ca (goodIn_ca (goodIn_ca (goodIn_ca (goodIn_ca (goodIn_ca (goodIn_r _ [892, 684, 708, 893, 894, 895, 72, 896, 735, 89, 332, 232, 331, 834, 836, 19, 837, 717, 86, 204, 897, 898, 899, 76, 900, 230, 366, 367, 902, 903, 904, 73, 905, 233, 206, 198, 174, 906, 907, 908, 75, 909, 172, 176, 911, 912, 913, 914, 225, 418, 419, 420, 421, 361, 362, 363, 364, 756, 484, 485, 486, 201, 228, 167] (by decide +kernel) (by decide +kernel)) gt_wsX70) gt_wsX30) gt_wsX00) gt_wsX40) gt_F1) gt_F2) gt_F5)
theorem gs_L_215_L_close : GoodIn lw_tbl (va_wsS RL 215 yL_close wsL_close) := goodIn_app (goodIn_r _ [890, 891, 71] (by decide +kernel) (by decide +kernel)) gt_wsL_close
set_option maxRecDepth 20000 in
theorem gt_wsX8_close : GoodIn lw_tbl wsX8_close := (goodIn_ca (goodIn_ca (goodIn_r _ [1570, 1225, 1224, 1496, 1498, 44, 80, 1499, 1226, 1280, 1281, 1282, 1283, 1285, 33, 1286, 1229, 1571, 1573, 50, 1574, 1227, 1222, 1575, 1577, 51, 1578, 1221, 1579, 1581, 52, 1582, 1527, 1528, 1529, 1530, 1531, 1533] (by decide +kernel) (by decide +kernel)) gt_wsX80) gt_F1)
theorem gv_L_217_X8_close : GoodIn lw_tbl (wsV RL 217 RX8 yX8_close wsX8_close) := goodIn_app (goodIn_r _ [1567, 1568, 1569, 80] (by decide +kernel) (by decide +kernel)) gt_wsX8_close
set_option maxRecDepth 20000 in
theorem gt_wsL_bestWay : GoodIn lw_tbl wsL_bestWay := (goodIn_ca (goodIn_ca (goodIn_ca (goodIn_ca (goodIn_ca (goodIn_ca (goodIn_ca (goodIn_ca (goodIn_r _ [917, 684, 760, 918, 919, 920, 72, 921, 774, 91, 332, 226, 331, 713, 715, 16, 716, 717, 86, 207, 923, 415, 416, 73, 417, 225, 198, 174, 410, 411, 412, 413, 201, 228, 167, 194, 140, 168, 361, 362, 363, 75, 364, 172, 176, 366, 367, 368, 369, 370, 74, 371, 142, 418, 419, 420, 421, 233] (by decide +kernel) (by decide +kernel)) gt_wsX70) gt_wsX30) gt_wsX00) gt_wsX40) gt_wsX50) gt_F1) gt_F7) gt_F5)
theorem gs_L_218_L_bestWay : GoodIn lw_tbl (va_wsS RL 218 yL_bestWay wsL_bestWay) := goodIn_app (goodIn_r _ [915, 916, 71] (by decide +kernel) (by decide +kernel)) gt_wsL_bestWay
set_option maxRecDepth 20000 in
theorem gt_wsX8_bestWay : GoodIn lw_tbl wsX8_bestWay := (goodIn_ca (goodIn_ca (goodIn_ca (goodIn_r _ [1586, 1222, 1224, 1313, 1315, 36, 80, 1316, 1227, 1280, 1281, 1282, 1283, 1285, 33, 1286, 1229, 1587, 1589, 53, 1590, 1321, 382, 90, 383, 1484, 1486, 43, 1487, 1221, 1225, 1591, 1593, 54, 1594, 1516, 1518, 47, 1519, 1226, 1217, 1219, 1500, 1502, 45, 1503, 1218, 1508, 1510, 46, 1511, 1213, 1212, 1214, 1524, 1525, 1526, 1527, 1528, 1529, 1530, 1531, 1533] (by decide +kernel) (by decide +kernel)) gt_wsX80) gt_F1) gt_F0)
theorem gv_L_220_X8_bestWay : GoodIn lw_tbl (wsV RL 220 RX8 yX8_bestWay wsX8_bestWay) := goodIn_app (goodIn_r _ [1583, 1584, 1585, 80] (by decide +kernel) (by decide +kernel)) gt_wsX8_bestWay
