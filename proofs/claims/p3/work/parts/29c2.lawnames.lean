theorem tbX3_through : ∀ w ∈ wsX3_through, w ∈ lw_tbl := tb_cons (List.mem_of_getElem? (i := 401) (by decide +kernel)) (tb_app tboX3_through tbn_5)
set_option maxRecDepth 20000 in
theorem tboX3_mostFrom : ∀ w ∈ woX3_mostFrom, w ∈ lw_tbl := lw_mem (big := lw_tbl) woX3_mostFrom [402, 403, 96, 404, 395, 396, 87, 398, 400, 2] (by decide +kernel)
theorem tbX3_mostFrom : ∀ w ∈ wsX3_mostFrom, w ∈ lw_tbl := tb_cons (List.mem_of_getElem? (i := 394) (by decide +kernel)) (tb_app tboX3_mostFrom (tb_app tbn_5 (tb_app tbX3_mayFollow tbX3_through)))
set_option maxRecDepth 20000 in
theorem tboX3_mostCoin : ∀ w ∈ woX3_mostCoin, w ∈ lw_tbl := lw_mem (big := lw_tbl) woX3_mostCoin [258, 391, 393, 1, 87, 403, 96] (by decide +kernel)
theorem tbX3_mostCoin : ∀ w ∈ wsX3_mostCoin, w ∈ lw_tbl := tb_cons (List.mem_of_getElem? (i := 390) (by decide +kernel)) (tb_app tboX3_mostCoin (tb_app tbn_5 tbX3_mostFrom))
set_option maxRecDepth 20000 in
theorem tboX10_most : ∀ w ∈ woX10_most, w ∈ lw_tbl := lw_mem (big := lw_tbl) woX10_most [338, 271, 387, 388, 389, 87, 403, 96] (by decide +kernel)
theorem tbX10_most : ∀ w ∈ wsX10_most, w ∈ lw_tbl := tb_cons (List.mem_of_getElem? (i := 386) (by decide +kernel)) (tb_app tboX10_most (tb_app tbn_9 (tb_app tbn_6 (tb_app tbn_5 tbX3_mostCoin))))
theorem tbX11_mayServe : ∀ w ∈ wsX11_mayServe, w ∈ lw_tbl := tb_cons (List.mem_of_getElem? (i := 1528) (by decide +kernel)) tb_nil
set_option maxRecDepth 20000 in
theorem tboX11_laysRest : ∀ w ∈ woX11_laysRest, w ∈ lw_tbl := lw_mem (big := lw_tbl) woX11_laysRest [1165, 1162, 1526, 1527, 91] (by decide +kernel)
theorem tbX11_laysRest : ∀ w ∈ wsX11_laysRest, w ∈ lw_tbl := tb_cons (List.mem_of_getElem? (i := 1525) (by decide +kernel)) (tb_app tboX11_laysRest (tb_app tbn_10 tbX11_mayServe))
set_option maxRecDepth 20000 in
theorem tboX11_mostNow : ∀ w ∈ woX11_mostNow, w ∈ lw_tbl := lw_mem (big := lw_tbl) woX11_mostNow [1165, 1522, 1524, 75, 91] (by decide +kernel)
theorem tbX11_mostNow : ∀ w ∈ wsX11_mostNow, w ∈ lw_tbl := tb_cons (List.mem_of_getElem? (i := 1521) (by decide +kernel)) (tb_app tboX11_mostNow (tb_app tbn_10 tbX11_laysRest))
set_option maxRecDepth 20000 in
theorem tboX11_most : ∀ w ∈ woX11_most, w ∈ lw_tbl := lw_mem (big := lw_tbl) woX11_most [1131, 1518, 1520, 74, 91] (by decide +kernel)
theorem tbX11_most : ∀ w ∈ wsX11_most, w ∈ lw_tbl := tb_cons (List.mem_of_getElem? (i := 1517) (by decide +kernel)) (tb_app tboX11_most (tb_app tbn_10 tbX11_mostNow))
set_option maxRecDepth 20000 in
theorem tboX3_firstWay : ∀ w ∈ woX3_firstWay, w ∈ lw_tbl := lw_mem (big := lw_tbl) woX3_firstWay [258, 395, 396, 87, 398, 400, 2] (by decide +kernel)
theorem tbX3_firstWay : ∀ w ∈ wsX3_firstWay, w ∈ lw_tbl := tb_cons (List.mem_of_getElem? (i := 1114) (by decide +kernel)) (tb_app tboX3_firstWay (tb_app tbn_5 (tb_app tbX3_mayFollow tbX3_through)))
set_option maxRecDepth 20000 in
theorem tboX3_served : ∀ w ∈ woX3_served, w ∈ lw_tbl := lw_mem (big := lw_tbl) woX3_served [1110, 388, 389, 87, 403, 96, 1111, 1113, 36] (by decide +kernel)
theorem tbX3_served : ∀ w ∈ wsX3_served, w ∈ lw_tbl := tb_cons (List.mem_of_getElem? (i := 1109) (by decide +kernel)) (tb_app tboX3_served (tb_app tbn_5 (tb_app tbX3_mostCoin tbX3_firstWay)))
set_option maxRecDepth 20000 in
theorem tboX10_serves : ∀ w ∈ woX10_serves, w ∈ lw_tbl := lw_mem (big := lw_tbl) woX10_serves [338, 271, 446, 425, 79, 459, 461, 3, 95, 1106, 1107, 1108, 87, 403, 96] (by decide +kernel)
theorem tbX10_serves : ∀ w ∈ wsX10_serves, w ∈ lw_tbl := tb_cons (List.mem_of_getElem? (i := 1105) (by decide +kernel)) (tb_app tboX10_serves (tb_app tbn_9 (tb_app tbn_6 (tb_app tbn_5 (tb_app tbX10_within (tb_app tbX10_demand tbX3_served))))))
set_option maxRecDepth 20000 in
theorem tboL_serves : ∀ w ∈ woL_serves, w ∈ lw_tbl := lw_mem (big := lw_tbl) woL_serves [454, 1102, 1103, 1104, 79, 95, 87, 403, 96] (by decide +kernel)
theorem tbL_serves : ∀ w ∈ wsL_serves, w ∈ lw_tbl := tb_cons (List.mem_of_getElem? (i := 1101) (by decide +kernel)) (tb_app tboL_serves (tb_app tbn_9 (tb_app tbn_6 (tb_app tbn_5 tbX10_serves))))
set_option maxRecDepth 20000 in
theorem tboX11_serves : ∀ w ∈ woX11_serves, w ∈ lw_tbl := lw_mem (big := lw_tbl) woX11_serves [1131, 1165, 1162, 1249, 1250, 91, 1252, 1254, 39, 1518, 1520, 74, 1526, 1527] (by decide +kernel)
theorem tbX11_serves : ∀ w ∈ wsX11_serves, w ∈ lw_tbl := tb_cons (List.mem_of_getElem? (i := 1532) (by decide +kernel)) (tb_app tboX11_serves (tb_app tbn_10 (tb_app tbX11_in (tb_app tbX11_bad (tb_app tbX11_mostNow tbX11_mayServe)))))
set_option maxRecDepth 20000 in
theorem tboX0_take : ∀ w ∈ woX0_take, w ∈ lw_tbl := lw_mem (big := lw_tbl) woX0_take [216, 427, 419, 418, 103, 425, 79] (by decide +kernel)
theorem tbX0_take : ∀ w ∈ wsX0_take, w ∈ lw_tbl := tb_cons (List.mem_of_getElem? (i := 423) (by decide +kernel)) (tb_app tboX0_take (tb_app tbn_3 tbX10_within))
set_option maxRecDepth 20000 in
theorem tboX2_take : ∀ w ∈ woX2_take, w ∈ lw_tbl := lw_mem (big := lw_tbl) woX2_take [226, 432, 419, 418, 103, 228, 230, 231, 232, 233, 234] (by decide +kernel)
theorem tbX2_take : ∀ w ∈ wsX2_take, w ∈ lw_tbl := tb_cons (List.mem_of_getElem? (i := 431) (by decide +kernel)) (tb_app tboX2_take tbn_4)
set_option maxRecDepth 20000 in
theorem tboX3_take : ∀ w ∈ woX3_take, w ∈ lw_tbl := lw_mem (big := lw_tbl) woX3_take [257, 437, 419, 418, 103] (by decide +kernel)
theorem tbX3_take : ∀ w ∈ wsX3_take, w ∈ lw_tbl := tb_cons (List.mem_of_getElem? (i := 436) (by decide +kernel)) (tb_app tboX3_take tbn_5)
set_option maxRecDepth 20000 in
theorem tboX8_take : ∀ w ∈ woX8_take, w ∈ lw_tbl := lw_mem (big := lw_tbl) woX8_take [264, 266, 201, 268, 270, 413, 414, 415, 84, 419, 418, 103, 420, 421, 422, 85, 79, 428, 429, 430, 86, 433, 434, 435, 87] (by decide +kernel)
theorem tbX8_take : ∀ w ∈ wsX8_take, w ∈ lw_tbl := tb_cons (List.mem_of_getElem? (i := 412) (by decide +kernel)) (tb_app tboX8_take (tb_app tbn_6 (tb_app tbn_2 (tb_app tbn_3 (tb_app tbn_4 (tb_app tbn_5 (tb_app tbX4_take (tb_app tbX0_take (tb_app tbX2_take tbX3_take)))))))))
set_option maxRecDepth 20000 in
theorem tboX10_image : ∀ w ∈ woX10_image, w ∈ lw_tbl := lw_mem (big := lw_tbl) woX10_image [340, 339, 182, 183, 83, 338, 185, 110, 189, 84, 211, 85, 221, 86, 252, 87, 139, 409, 410, 411, 419, 418, 103, 79] (by decide +kernel)
theorem tbX10_image : ∀ w ∈ wsX10_image, w ∈ lw_tbl := tb_cons (List.mem_of_getElem? (i := 408) (by decide +kernel)) (tb_app tboX10_image (tb_app tbn_9 (tb_app tbn_6 (tb_app tbn_2 (tb_app tbn_3 (tb_app tbn_4 (tb_app tbn_5 (tb_app tbX8_init tbX8_take))))))))
set_option maxRecDepth 20000 in
theorem tboX11_moves : ∀ w ∈ woX11_moves, w ∈ lw_tbl := lw_mem (big := lw_tbl) woX11_moves [1159] (by decide +kernel)
theorem tbX11_moves : ∀ w ∈ wsX11_moves, w ∈ lw_tbl := tb_cons (List.mem_of_getElem? (i := 1544) (by decide +kernel)) (tb_app tboX11_moves tbn_10)
set_option maxRecDepth 20000 in
theorem tboX11_movesAll : ∀ w ∈ woX11_movesAll, w ∈ lw_tbl := lw_mem (big := lw_tbl) woX11_movesAll [1159, 1155, 1156, 1157, 1160, 1161, 1162, 1150, 1152, 1153, 1541, 1543, 77, 91] (by decide +kernel)
theorem tbX11_movesAll : ∀ w ∈ wsX11_movesAll, w ∈ lw_tbl := tb_cons (List.mem_of_getElem? (i := 1540) (by decide +kernel)) (tb_app tboX11_movesAll (tb_app tbn_10 tbX11_moves))
set_option maxRecDepth 20000 in
theorem tboX11_image : ∀ w ∈ woX11_image, w ∈ lw_tbl := lw_mem (big := lw_tbl) woX11_image [1131, 1158, 1163, 1537, 1539, 76, 91] (by decide +kernel)
theorem tbX11_image : ∀ w ∈ wsX11_image, w ∈ lw_tbl := tb_cons (List.mem_of_getElem? (i := 1536) (by decide +kernel)) (tb_app tboX11_image (tb_app tbn_10 tbX11_movesAll))
set_option maxRecDepth 20000 in
theorem tboX10_restore : ∀ w ∈ woX10_restore, w ∈ lw_tbl := lw_mem (big := lw_tbl) woX10_restore [340, 339, 338, 409, 410, 411, 83, 84, 419, 418, 103, 85, 79, 86, 87] (by decide +kernel)
theorem tbX10_restore : ∀ w ∈ wsX10_restore, w ∈ lw_tbl := tb_cons (List.mem_of_getElem? (i := 441) (by decide +kernel)) (tb_app tboX10_restore (tb_app tbn_9 (tb_app tbn_6 (tb_app tbn_2 (tb_app tbn_3 (tb_app tbn_4 (tb_app tbn_5 tbX8_take)))))))
set_option maxRecDepth 20000 in
theorem tboX11_restore : ∀ w ∈ woX11_restore, w ∈ lw_tbl := lw_mem (big := lw_tbl) woX11_restore [1131, 1158, 1163, 1537, 1539, 76, 91] (by decide +kernel)
theorem tbX11_restore : ∀ w ∈ wsX11_restore, w ∈ lw_tbl := tb_cons (List.mem_of_getElem? (i := 1548) (by decide +kernel)) (tb_app tboX11_restore (tb_app tbn_10 tbX11_movesAll))
set_option maxRecDepth 20000 in
theorem tboX10_status : ∀ w ∈ woX10_status, w ∈ lw_tbl := lw_mem (big := lw_tbl) woX10_status [343, 446, 425, 79] (by decide +kernel)
theorem tbX10_status : ∀ w ∈ wsX10_status, w ∈ lw_tbl := tb_cons (List.mem_of_getElem? (i := 445) (by decide +kernel)) (tb_app tboX10_status (tb_app tbn_9 tbX10_within))
set_option maxRecDepth 20000 in
theorem tboX11_status : ∀ w ∈ woX11_status, w ∈ lw_tbl := lw_mem (big := lw_tbl) woX11_status [1131, 1140, 1249, 1250, 91] (by decide +kernel)
theorem tbX11_status : ∀ w ∈ wsX11_status, w ∈ lw_tbl := tb_cons (List.mem_of_getElem? (i := 1552) (by decide +kernel)) (tb_app tboX11_status (tb_app tbn_10 tbX11_in))
set_option maxRecDepth 20000 in
theorem tboX10_count : ∀ w ∈ woX10_count, w ∈ lw_tbl := lw_mem (big := lw_tbl) woX10_count [340, 332, 338, 269, 235] (by decide +kernel)
theorem tbX10_count : ∀ w ∈ wsX10_count, w ∈ lw_tbl := tb_cons (List.mem_of_getElem? (i := 450) (by decide +kernel)) (tb_app tboX10_count (tb_app tbn_9 (tb_app tbn_6 tbn_4)))
set_option maxRecDepth 20000 in
theorem tboX11_count : ∀ w ∈ woX11_count, w ∈ lw_tbl := lw_mem (big := lw_tbl) woX11_count [1131, 1158, 1132, 1157] (by decide +kernel)
theorem tbX11_count : ∀ w ∈ wsX11_count, w ∈ lw_tbl := tb_cons (List.mem_of_getElem? (i := 1556) (by decide +kernel)) (tb_app tboX11_count tbn_10)
set_option maxRecDepth 20000 in
theorem tboL_law : ∀ w ∈ woL_law, w ∈ lw_tbl := lw_mem (big := lw_tbl) woL_law [104, 105, 79, 1115, 1116, 91, 1557, 106, 107, 110, 138, 113, 80, 141, 82, 183, 83, 189, 84, 285, 88, 139, 308, 89, 81, 211, 85, 221, 86, 252, 87, 90, 1117, 1118, 371, 372, 373, 1241, 1242, 1243, 451, 452, 78, 454, 455, 95, 536, 96, 540, 561, 97, 98, 99, 100, 632, 641, 653, 662, 682, 1245, 1246, 1247, 1237, 1238, 1239, 708, 709, 711, 1307, 1308, 1309, 379, 380, 381, 1315, 1316, 1317, 720, 721, 723, 1319, 1320, 1321, 727, 728, 730, 731, 101, 1323, 1324, 1325, 755, 756, 758, 759, 102, 1331, 1332, 1333, 795, 796, 798, 1339, 1340, 1341, 806, 807, 809, 1347, 1348, 1349, 821, 822, 824, 419, 418, 103, 403, 887, 1355, 1356, 1357, 893, 894, 896, 1394, 1395, 1396, 905, 906, 908, 1398, 1399, 1400, 912, 913, 915, 1402, 1403, 1404, 923, 924, 926, 1406, 1407, 1408, 939, 940, 942, 1429, 1430, 1431, 946, 947, 949, 1433, 1434, 1435, 958, 959, 961, 1441, 1442, 1443, 965, 966, 968, 1445, 1446, 1447, 972, 973, 975, 1449, 1450, 1451, 984, 985, 987, 1453, 1454, 1455, 991, 992, 994, 1457, 1458, 1459, 1002, 1003, 1005, 1465, 1466, 1467, 1009, 1010, 1012, 1469, 1470, 1471, 1020, 1021, 1023, 1473, 1474, 1475, 1074, 1075, 1077, 1502, 1503, 1504, 1081, 1082, 1084, 1506, 1507, 1508, 1088, 1089, 1091, 1510, 1511, 1512, 383, 384, 385, 1514, 1515, 1516, 1099, 1100, 1102, 1529, 1530, 1531, 405, 406, 407, 1533, 1534, 1535, 438, 439, 440, 1545, 1546, 1547, 442, 443, 444, 1549, 1550, 1551, 447, 448, 449, 1553, 1554, 1555] (by decide +kernel)
theorem wsL_law_in : ∀ w ∈ wsL_law, w ∈ lw_tbl := (tb_app tboL_law (tb_app tbn_9 (tb_app tbn_10 (tb_app tbn_0 (tb_app tbn_1 (tb_app tbn_6 (tb_app tbn_2 (tb_app tbn_7 (tb_app tbn_8 (tb_app tbn_3 (tb_app tbn_4 (tb_app tbn_5 (tb_app tbn_11 (tb_app tbn_12 (tb_app tbn_13 (tb_app tbX10_init (tb_app tbX11_init (tb_app tbX10_feed (tb_app tbX11_feed (tb_app tbL_siege (tb_app tbX11_siege (tb_app tbX11_thrown (tb_app tbL_contract (tb_app tbX11_contract (tb_app tbX10_fault (tb_app tbX11_fault (tb_app tbL_told (tb_app tbX11_told (tb_app tbL_wall (tb_app tbX11_wall (tb_app tbL_rule (tb_app tbX11_rule (tb_app tbL_wants (tb_app tbX11_wants (tb_app tbL_sign (tb_app tbX11_sign (tb_app tbL_months (tb_app tbX11_months (tb_app tbL_undo (tb_app tbX11_undo (tb_app tbL_sums (tb_app tbX11_sums (tb_app tbL_corks (tb_app tbX11_corks (tb_app tbL_would (tb_app tbX11_would (tb_app tbL_best (tb_app tbX11_best (tb_app tbL_offer (tb_app tbX11_offer (tb_app tbL_nearest (tb_app tbX11_nearest (tb_app tbL_stop (tb_app tbX11_stop (tb_app tbL_odds (tb_app tbX11_odds (tb_app tbL_kind (tb_app tbX11_kind (tb_app tbL_seen (tb_app tbX11_seen (tb_app tbL_spy (tb_app tbX11_spy (tb_app tbL_believed (tb_app tbX11_believed (tb_app tbL_earnest (tb_app tbX11_earnest (tb_app tbL_stands (tb_app tbX11_stands (tb_app tbL_show (tb_app tbX11_show (tb_app tbL_offers (tb_app tbX11_offers (tb_app tbX10_most (tb_app tbX11_most (tb_app tbL_serves (tb_app tbX11_serves (tb_app tbX10_image (tb_app tbX11_image (tb_app tbX10_restore (tb_app tbX11_restore (tb_app tbX10_status (tb_app tbX11_status (tb_app tbX10_count tbX11_count)))))))))))))))))))))))))))))))))))))))))))))))))))))))))))))))))))))))))))))))))))
theorem inlX0 : ∀ w ∈ wsX00, w ∈ wsL_law := fun _ h => List.mem_append_right _ (List.mem_append_right _ (List.mem_append_right _ (List.mem_append_right _ (List.mem_append_right _ (List.mem_append_right _ (List.mem_append_right _ (List.mem_append_right _ (List.mem_append_right _ (List.mem_append_left _ h)))))))))
theorem inX0 : ∀ w ∈ wsX00, w ∈ lw_tbl := fun w h => wsL_law_in w (inlX0 w h)
theorem inlX1 : ∀ w ∈ wsX10, w ∈ wsL_law := fun _ h => List.mem_append_right _ (List.mem_append_right _ (List.mem_append_right _ (List.mem_append_right _ (List.mem_append_right _ (List.mem_append_right _ (List.mem_append_right _ (List.mem_append_left _ h)))))))
theorem inX1 : ∀ w ∈ wsX10, w ∈ lw_tbl := fun w h => wsL_law_in w (inlX1 w h)
theorem inlX2 : ∀ w ∈ wsX20, w ∈ wsL_law := fun _ h => List.mem_append_right _ (List.mem_append_right _ (List.mem_append_right _ (List.mem_append_right _ (List.mem_append_right _ (List.mem_append_right _ (List.mem_append_right _ (List.mem_append_right _ (List.mem_append_right _ (List.mem_append_right _ (List.mem_append_left _ h))))))))))
theorem inX2 : ∀ w ∈ wsX20, w ∈ lw_tbl := fun w h => wsL_law_in w (inlX2 w h)
theorem inlX3 : ∀ w ∈ wsX30, w ∈ wsL_law := fun _ h => List.mem_append_right _ (List.mem_append_right _ (List.mem_append_right _ (List.mem_append_right _ (List.mem_append_right _ (List.mem_append_right _ (List.mem_append_right _ (List.mem_append_right _ (List.mem_append_right _ (List.mem_append_right _ (List.mem_append_right _ (List.mem_append_left _ h)))))))))))
theorem inX3 : ∀ w ∈ wsX30, w ∈ lw_tbl := fun w h => wsL_law_in w (inlX3 w h)
theorem inlX4 : ∀ w ∈ wsX40, w ∈ wsL_law := fun _ h => List.mem_append_right _ (List.mem_append_right _ (List.mem_append_right _ (List.mem_append_right _ (List.mem_append_right _ (List.mem_append_right _ (List.mem_append_left _ h))))))
theorem inX4 : ∀ w ∈ wsX40, w ∈ lw_tbl := fun w h => wsL_law_in w (inlX4 w h)
theorem inlX5 : ∀ w ∈ wsX50, w ∈ wsL_law := fun _ h => List.mem_append_right _ (List.mem_append_right _ (List.mem_append_right _ (List.mem_append_right _ (List.mem_append_right _ (List.mem_append_right _ (List.mem_append_right _ (List.mem_append_right _ (List.mem_append_left _ h))))))))
theorem inX5 : ∀ w ∈ wsX50, w ∈ lw_tbl := fun w h => wsL_law_in w (inlX5 w h)
theorem inlX6 : ∀ w ∈ wsX60, w ∈ wsL_law := fun _ h => List.mem_append_right _ (List.mem_append_right _ (List.mem_append_right _ (List.mem_append_right _ (List.mem_append_left _ h))))
theorem inX6 : ∀ w ∈ wsX60, w ∈ lw_tbl := fun w h => wsL_law_in w (inlX6 w h)
theorem inlX7 : ∀ w ∈ wsX70, w ∈ wsL_law := fun _ h => List.mem_append_right _ (List.mem_append_right _ (List.mem_append_right _ (List.mem_append_left _ h)))
theorem inX7 : ∀ w ∈ wsX70, w ∈ lw_tbl := fun w h => wsL_law_in w (inlX7 w h)
theorem inlX8 : ∀ w ∈ wsX80, w ∈ wsL_law := fun _ h => List.mem_append_right _ (List.mem_append_right _ (List.mem_append_right _ (List.mem_append_right _ (List.mem_append_right _ (List.mem_append_left _ h)))))
theorem inX8 : ∀ w ∈ wsX80, w ∈ lw_tbl := fun w h => wsL_law_in w (inlX8 w h)
theorem inX9 : ∀ w ∈ wsX90, w ∈ lw_tbl := by decide +kernel
theorem inlX10 : ∀ w ∈ wsX100, w ∈ wsL_law := fun _ h => List.mem_append_right _ (List.mem_append_left _ h)
theorem inX10 : ∀ w ∈ wsX100, w ∈ lw_tbl := fun w h => wsL_law_in w (inlX10 w h)
theorem inlX11 : ∀ w ∈ wsX110, w ∈ wsL_law := fun _ h => List.mem_append_right _ (List.mem_append_right _ (List.mem_append_left _ h))
theorem inX11 : ∀ w ∈ wsX110, w ∈ lw_tbl := fun w h => wsL_law_in w (inlX11 w h)
theorem inJx145de : ∀ w ∈ wsJx145de0, w ∈ lw_tbl := by decide +kernel
theorem inJx9f9b0 : ∀ w ∈ wsJx9f9b00, w ∈ lw_tbl := by decide +kernel
theorem inJxb160c : ∀ w ∈ wsJxb160c0, w ∈ lw_tbl := by decide +kernel
theorem inJ9 : ∀ w ∈ wsJ90, w ∈ lw_tbl := by decide +kernel
theorem inJ0 : ∀ w ∈ wsJ00, w ∈ lw_tbl := by decide +kernel
theorem inJ1 : ∀ w ∈ wsJ10, w ∈ lw_tbl := by decide +kernel
theorem inJ2 : ∀ w ∈ wsJ20, w ∈ lw_tbl := by decide +kernel
theorem inJ10 : ∀ w ∈ wsJ100, w ∈ lw_tbl := by decide +kernel
theorem inJxfd54e : ∀ w ∈ wsJxfd54e0, w ∈ lw_tbl := by decide +kernel
theorem inJx3cf43 : ∀ w ∈ wsJx3cf430, w ∈ lw_tbl := by decide +kernel
theorem inJ7 : ∀ w ∈ wsJ70, w ∈ lw_tbl := by decide +kernel
theorem inJ3 : ∀ w ∈ wsJ30, w ∈ lw_tbl := by decide +kernel
theorem ggL_siege_X10_siege : GoodIn wsL_siege wsX10_siege := gW_in gwX10_siege (fun _ h => List.mem_cons_of_mem _ (List.mem_append_right _ (List.mem_append_right _ (List.mem_append_right _ (List.mem_append_right _ (List.mem_append_right _ (List.mem_append_right _ (List.mem_append_right _ (List.mem_append_right _ (List.mem_append_right _ (h)))))))))))
set_option maxRecDepth 20000 in
theorem gL_siege_X10_siege : GoodIn wsL_siege (wsV RL 7 RX10 yX10_siege wsX10_siege) := goodIn_app (goodIn_of _ (by decide +kernel)) ggL_siege_X10_siege
theorem dL_siege_0 : decode cL_siege 0 = .ok (.aload_n 2, 1) := by decide +kernel
theorem dL_siege_1 : decode cL_siege 1 = .ok (.iconst 0, 1) := by decide +kernel
theorem dL_siege_2 : decode cL_siege 2 = .ok (.aload_n 0, 1) := by decide +kernel
theorem dL_siege_3 : decode cL_siege 3 = .ok (.iload_n 1, 1) := by decide +kernel
theorem dL_siege_4 : decode cL_siege 4 = .ok (.invokevirtual 7, 3) := by decide +kernel
theorem dL_siege_7 : decode cL_siege 7 = .ok (.i2l, 1) := by decide +kernel
theorem dL_siege_8 : decode cL_siege 8 = .ok (.lastore, 1) := by decide +kernel
theorem dL_siege_9 : decode cL_siege 9 = .ok (.goto 6, 3) := by decide +kernel
theorem dL_siege_12 : decode cL_siege 12 = .ok (.astore_n 3, 1) := by decide +kernel
theorem dL_siege_13 : decode cL_siege 13 = .ok (.iconst 1, 1) := by decide +kernel
theorem dL_siege_14 : decode cL_siege 14 = .ok (.ireturn, 1) := by decide +kernel
theorem dL_siege_15 : decode cL_siege 15 = .ok (.iconst 0, 1) := by decide +kernel
theorem dL_siege_16 : decode cL_siege 16 = .ok (.ireturn, 1) := by decide +kernel
theorem ggL_contract_X10_contract : GoodIn wsL_contract wsX10_contract := gW_in gwX10_contract (fun _ h => List.mem_cons_of_mem _ (List.mem_append_right _ (List.mem_append_right _ (List.mem_append_right _ (List.mem_append_right _ (List.mem_append_right _ (h)))))))
set_option maxRecDepth 20000 in
theorem gL_contract_X10_contract : GoodIn wsL_contract (wsV RL 15 RX10 yX10_contract wsX10_contract) := goodIn_app (goodIn_of _ (by decide +kernel)) ggL_contract_X10_contract
theorem dL_contract_0 : decode cL_contract 0 = .ok (.aload_n 2, 1) := by decide +kernel
theorem dL_contract_1 : decode cL_contract 1 = .ok (.iconst 0, 1) := by decide +kernel
theorem dL_contract_2 : decode cL_contract 2 = .ok (.aload_n 0, 1) := by decide +kernel
theorem dL_contract_3 : decode cL_contract 3 = .ok (.iload_n 1, 1) := by decide +kernel
theorem dL_contract_4 : decode cL_contract 4 = .ok (.invokevirtual 15, 3) := by decide +kernel
theorem dL_contract_7 : decode cL_contract 7 = .ok (.i2l, 1) := by decide +kernel
theorem dL_contract_8 : decode cL_contract 8 = .ok (.lastore, 1) := by decide +kernel
theorem dL_contract_9 : decode cL_contract 9 = .ok (.goto 6, 3) := by decide +kernel
theorem dL_contract_12 : decode cL_contract 12 = .ok (.astore_n 3, 1) := by decide +kernel
theorem dL_contract_13 : decode cL_contract 13 = .ok (.iconst 1, 1) := by decide +kernel
theorem dL_contract_14 : decode cL_contract 14 = .ok (.ireturn, 1) := by decide +kernel
theorem dL_contract_15 : decode cL_contract 15 = .ok (.iconst 0, 1) := by decide +kernel
theorem dL_contract_16 : decode cL_contract 16 = .ok (.ireturn, 1) := by decide +kernel
theorem ggL_told_X10_told : GoodIn wsL_told wsX10_told := gW_in gwX10_told (fun _ h => List.mem_cons_of_mem _ (List.mem_append_right _ (List.mem_append_right _ (List.mem_append_right _ (List.mem_append_right _ (List.mem_append_right _ (h)))))))
set_option maxRecDepth 20000 in
theorem gL_told_X10_told : GoodIn wsL_told (wsV RL 18 RX10 yX10_told wsX10_told) := goodIn_app (goodIn_of _ (by decide +kernel)) ggL_told_X10_told
theorem dL_told_0 : decode cL_told 0 = .ok (.aload_n 2, 1) := by decide +kernel
theorem dL_told_1 : decode cL_told 1 = .ok (.iconst 0, 1) := by decide +kernel
theorem dL_told_2 : decode cL_told 2 = .ok (.aload_n 0, 1) := by decide +kernel
theorem dL_told_3 : decode cL_told 3 = .ok (.iload_n 1, 1) := by decide +kernel
theorem dL_told_4 : decode cL_told 4 = .ok (.invokevirtual 18, 3) := by decide +kernel
theorem dL_told_7 : decode cL_told 7 = .ok (.i2l, 1) := by decide +kernel
theorem dL_told_8 : decode cL_told 8 = .ok (.lastore, 1) := by decide +kernel
theorem dL_told_9 : decode cL_told 9 = .ok (.goto 6, 3) := by decide +kernel
theorem dL_told_12 : decode cL_told 12 = .ok (.astore_n 3, 1) := by decide +kernel
theorem dL_told_13 : decode cL_told 13 = .ok (.iconst 1, 1) := by decide +kernel
theorem dL_told_14 : decode cL_told 14 = .ok (.ireturn, 1) := by decide +kernel
theorem dL_told_15 : decode cL_told 15 = .ok (.iconst 0, 1) := by decide +kernel
theorem dL_told_16 : decode cL_told 16 = .ok (.ireturn, 1) := by decide +kernel
theorem ggL_wall_X10_wall : GoodIn wsL_wall wsX10_wall := gW_in gwX10_wall (fun _ h => List.mem_cons_of_mem _ (List.mem_append_right _ (List.mem_append_right _ (List.mem_append_right _ (List.mem_append_right _ (List.mem_append_right _ (h)))))))
set_option maxRecDepth 20000 in
theorem gL_wall_X10_wall : GoodIn wsL_wall (wsV RL 21 RX10 yX10_wall wsX10_wall) := goodIn_app (goodIn_of _ (by decide +kernel)) ggL_wall_X10_wall
theorem dL_wall_0 : decode cL_wall 0 = .ok (.aload_n 3, 1) := by decide +kernel
theorem dL_wall_1 : decode cL_wall 1 = .ok (.iconst 0, 1) := by decide +kernel
theorem dL_wall_2 : decode cL_wall 2 = .ok (.aload_n 0, 1) := by decide +kernel
theorem dL_wall_3 : decode cL_wall 3 = .ok (.iload_n 1, 1) := by decide +kernel
theorem dL_wall_4 : decode cL_wall 4 = .ok (.iload_n 2, 1) := by decide +kernel
theorem dL_wall_5 : decode cL_wall 5 = .ok (.invokevirtual 21, 3) := by decide +kernel
theorem dL_wall_8 : decode cL_wall 8 = .ok (.i2l, 1) := by decide +kernel
theorem dL_wall_9 : decode cL_wall 9 = .ok (.lastore, 1) := by decide +kernel
theorem dL_wall_10 : decode cL_wall 10 = .ok (.goto 11, 3) := by decide +kernel
theorem dL_wall_13 : decode cL_wall 13 = .ok (.astore 4, 2) := by decide +kernel
theorem dL_wall_15 : decode cL_wall 15 = .ok (.iconst 1, 1) := by decide +kernel
theorem dL_wall_16 : decode cL_wall 16 = .ok (.ireturn, 1) := by decide +kernel
theorem dL_wall_17 : decode cL_wall 17 = .ok (.astore 4, 2) := by decide +kernel
theorem dL_wall_19 : decode cL_wall 19 = .ok (.iconst 2, 1) := by decide +kernel
theorem dL_wall_20 : decode cL_wall 20 = .ok (.ireturn, 1) := by decide +kernel
theorem dL_wall_21 : decode cL_wall 21 = .ok (.iconst 0, 1) := by decide +kernel
theorem dL_wall_22 : decode cL_wall 22 = .ok (.ireturn, 1) := by decide +kernel
theorem ggL_rule_X10_rule : GoodIn wsL_rule wsX10_rule := gW_in gwX10_rule (fun _ h => List.mem_cons_of_mem _ (List.mem_append_right _ (List.mem_append_right _ (List.mem_append_right _ (h)))))
set_option maxRecDepth 20000 in
theorem gL_rule_X10_rule : GoodIn wsL_rule (wsV RL 27 RX10 yX10_rule wsX10_rule) := goodIn_app (goodIn_of _ (by decide +kernel)) ggL_rule_X10_rule
theorem dL_rule_0 : decode cL_rule 0 = .ok (.aload_n 3, 1) := by decide +kernel
theorem dL_rule_1 : decode cL_rule 1 = .ok (.iconst 0, 1) := by decide +kernel
theorem dL_rule_2 : decode cL_rule 2 = .ok (.aload_n 0, 1) := by decide +kernel
theorem dL_rule_3 : decode cL_rule 3 = .ok (.iload_n 1, 1) := by decide +kernel
theorem dL_rule_4 : decode cL_rule 4 = .ok (.iload_n 2, 1) := by decide +kernel
theorem dL_rule_5 : decode cL_rule 5 = .ok (.invokevirtual 27, 3) := by decide +kernel
theorem dL_rule_8 : decode cL_rule 8 = .ok (.i2l, 1) := by decide +kernel
theorem dL_rule_9 : decode cL_rule 9 = .ok (.lastore, 1) := by decide +kernel
theorem dL_rule_10 : decode cL_rule 10 = .ok (.goto 11, 3) := by decide +kernel
theorem dL_rule_13 : decode cL_rule 13 = .ok (.astore 4, 2) := by decide +kernel
theorem dL_rule_15 : decode cL_rule 15 = .ok (.iconst 1, 1) := by decide +kernel
theorem dL_rule_16 : decode cL_rule 16 = .ok (.ireturn, 1) := by decide +kernel
theorem dL_rule_17 : decode cL_rule 17 = .ok (.astore 4, 2) := by decide +kernel
theorem dL_rule_19 : decode cL_rule 19 = .ok (.iconst 2, 1) := by decide +kernel
theorem dL_rule_20 : decode cL_rule 20 = .ok (.ireturn, 1) := by decide +kernel
theorem dL_rule_21 : decode cL_rule 21 = .ok (.iconst 0, 1) := by decide +kernel
theorem dL_rule_22 : decode cL_rule 22 = .ok (.ireturn, 1) := by decide +kernel
theorem ggL_wants_X10_wants : GoodIn wsL_wants wsX10_wants := gW_in gwX10_wants (fun _ h => List.mem_cons_of_mem _ (List.mem_append_right _ (List.mem_append_right _ (List.mem_append_right _ (h)))))
set_option maxRecDepth 20000 in
theorem gL_wants_X10_wants : GoodIn wsL_wants (wsV RL 32 RX10 yX10_wants wsX10_wants) := goodIn_app (goodIn_of _ (by decide +kernel)) ggL_wants_X10_wants
theorem dL_wants_0 : decode cL_wants 0 = .ok (.aload_n 3, 1) := by decide +kernel
theorem dL_wants_1 : decode cL_wants 1 = .ok (.iconst 0, 1) := by decide +kernel
theorem dL_wants_2 : decode cL_wants 2 = .ok (.aload_n 0, 1) := by decide +kernel
theorem dL_wants_3 : decode cL_wants 3 = .ok (.iload_n 1, 1) := by decide +kernel
theorem dL_wants_4 : decode cL_wants 4 = .ok (.iload_n 2, 1) := by decide +kernel
theorem dL_wants_5 : decode cL_wants 5 = .ok (.invokevirtual 32, 3) := by decide +kernel
theorem dL_wants_8 : decode cL_wants 8 = .ok (.i2l, 1) := by decide +kernel
theorem dL_wants_9 : decode cL_wants 9 = .ok (.lastore, 1) := by decide +kernel
theorem dL_wants_10 : decode cL_wants 10 = .ok (.goto 7, 3) := by decide +kernel
theorem dL_wants_13 : decode cL_wants 13 = .ok (.astore 4, 2) := by decide +kernel
theorem dL_wants_15 : decode cL_wants 15 = .ok (.iconst 1, 1) := by decide +kernel
theorem dL_wants_16 : decode cL_wants 16 = .ok (.ireturn, 1) := by decide +kernel
theorem dL_wants_17 : decode cL_wants 17 = .ok (.iconst 0, 1) := by decide +kernel
theorem dL_wants_18 : decode cL_wants 18 = .ok (.ireturn, 1) := by decide +kernel
theorem ggL_sign_X10_sign : GoodIn wsL_sign wsX10_sign := gW_in gwX10_sign (fun _ h => List.mem_cons_of_mem _ (List.mem_append_right _ (List.mem_append_right _ (List.mem_append_right _ (List.mem_append_right _ (h))))))
set_option maxRecDepth 20000 in
theorem gL_sign_X10_sign : GoodIn wsL_sign (wsV RL 35 RX10 yX10_sign wsX10_sign) := goodIn_app (goodIn_of _ (by decide +kernel)) ggL_sign_X10_sign
theorem dL_sign_0 : decode cL_sign 0 = .ok (.aload_n 2, 1) := by decide +kernel
theorem dL_sign_1 : decode cL_sign 1 = .ok (.iconst 0, 1) := by decide +kernel
theorem dL_sign_2 : decode cL_sign 2 = .ok (.aload_n 0, 1) := by decide +kernel
theorem dL_sign_3 : decode cL_sign 3 = .ok (.iload_n 1, 1) := by decide +kernel
theorem dL_sign_4 : decode cL_sign 4 = .ok (.invokevirtual 35, 3) := by decide +kernel
theorem dL_sign_7 : decode cL_sign 7 = .ok (.i2l, 1) := by decide +kernel
theorem dL_sign_8 : decode cL_sign 8 = .ok (.lastore, 1) := by decide +kernel
theorem dL_sign_9 : decode cL_sign 9 = .ok (.goto 6, 3) := by decide +kernel
theorem dL_sign_12 : decode cL_sign 12 = .ok (.astore_n 3, 1) := by decide +kernel
theorem dL_sign_13 : decode cL_sign 13 = .ok (.iconst 1, 1) := by decide +kernel
theorem dL_sign_14 : decode cL_sign 14 = .ok (.ireturn, 1) := by decide +kernel
theorem dL_sign_15 : decode cL_sign 15 = .ok (.iconst 0, 1) := by decide +kernel
theorem dL_sign_16 : decode cL_sign 16 = .ok (.ireturn, 1) := by decide +kernel
theorem ggL_months_X10_months : GoodIn wsL_months wsX10_months := gW_in gwX10_months (fun _ h => List.mem_cons_of_mem _ (List.mem_append_right _ (List.mem_append_right _ (List.mem_append_right _ (List.mem_append_right _ (List.mem_append_right _ (List.mem_append_right _ (List.mem_append_right _ (h)))))))))
set_option maxRecDepth 20000 in
theorem gL_months_X10_months : GoodIn wsL_months (wsV RL 38 RX10 yX10_months wsX10_months) := goodIn_app (goodIn_of _ (by decide +kernel)) ggL_months_X10_months
theorem dL_months_0 : decode cL_months 0 = .ok (.aload_n 2, 1) := by decide +kernel
theorem dL_months_1 : decode cL_months 1 = .ok (.iconst 0, 1) := by decide +kernel
theorem dL_months_2 : decode cL_months 2 = .ok (.aload_n 0, 1) := by decide +kernel
theorem dL_months_3 : decode cL_months 3 = .ok (.iload_n 1, 1) := by decide +kernel
theorem dL_months_4 : decode cL_months 4 = .ok (.invokevirtual 38, 3) := by decide +kernel
theorem dL_months_7 : decode cL_months 7 = .ok (.i2l, 1) := by decide +kernel
theorem dL_months_8 : decode cL_months 8 = .ok (.lastore, 1) := by decide +kernel
theorem dL_months_9 : decode cL_months 9 = .ok (.goto 6, 3) := by decide +kernel
theorem dL_months_12 : decode cL_months 12 = .ok (.astore_n 3, 1) := by decide +kernel
theorem dL_months_13 : decode cL_months 13 = .ok (.iconst 1, 1) := by decide +kernel
theorem dL_months_14 : decode cL_months 14 = .ok (.ireturn, 1) := by decide +kernel
theorem dL_months_15 : decode cL_months 15 = .ok (.iconst 0, 1) := by decide +kernel
theorem dL_months_16 : decode cL_months 16 = .ok (.ireturn, 1) := by decide +kernel
theorem ggL_undo_X10_undo : GoodIn wsL_undo wsX10_undo := gW_in gwX10_undo (fun _ h => List.mem_cons_of_mem _ (List.mem_append_right _ (List.mem_append_right _ (List.mem_append_right _ (List.mem_append_right _ (List.mem_append_right _ (h)))))))
set_option maxRecDepth 20000 in
theorem gL_undo_X10_undo : GoodIn wsL_undo (wsV RL 41 RX10 yX10_undo wsX10_undo) := goodIn_app (goodIn_of _ (by decide +kernel)) ggL_undo_X10_undo
theorem dL_undo_0 : decode cL_undo 0 = .ok (.aload_n 2, 1) := by decide +kernel
theorem dL_undo_1 : decode cL_undo 1 = .ok (.iconst 0, 1) := by decide +kernel
theorem dL_undo_2 : decode cL_undo 2 = .ok (.aload_n 0, 1) := by decide +kernel
theorem dL_undo_3 : decode cL_undo 3 = .ok (.iload_n 1, 1) := by decide +kernel
theorem dL_undo_4 : decode cL_undo 4 = .ok (.invokevirtual 41, 3) := by decide +kernel
theorem dL_undo_7 : decode cL_undo 7 = .ok (.i2l, 1) := by decide +kernel
theorem dL_undo_8 : decode cL_undo 8 = .ok (.lastore, 1) := by decide +kernel
theorem dL_undo_9 : decode cL_undo 9 = .ok (.goto 6, 3) := by decide +kernel
theorem dL_undo_12 : decode cL_undo 12 = .ok (.astore_n 3, 1) := by decide +kernel
theorem dL_undo_13 : decode cL_undo 13 = .ok (.iconst 1, 1) := by decide +kernel
theorem dL_undo_14 : decode cL_undo 14 = .ok (.ireturn, 1) := by decide +kernel
theorem dL_undo_15 : decode cL_undo 15 = .ok (.iconst 0, 1) := by decide +kernel
theorem dL_undo_16 : decode cL_undo 16 = .ok (.ireturn, 1) := by decide +kernel
theorem ggL_sums_X10_sums : GoodIn wsL_sums wsX10_sums := gW_in gwX10_sums (fun _ h => List.mem_cons_of_mem _ (List.mem_append_right _ (List.mem_append_right _ (List.mem_append_right _ (List.mem_append_right _ (h))))))
set_option maxRecDepth 20000 in
theorem gL_sums_X10_sums : GoodIn wsL_sums (wsV RL 44 RX10 yX10_sums wsX10_sums) := goodIn_app (goodIn_of _ (by decide +kernel)) ggL_sums_X10_sums
theorem dL_sums_0 : decode cL_sums 0 = .ok (.aload_n 2, 1) := by decide +kernel
theorem dL_sums_1 : decode cL_sums 1 = .ok (.iconst 0, 1) := by decide +kernel
theorem dL_sums_2 : decode cL_sums 2 = .ok (.aload_n 0, 1) := by decide +kernel
theorem dL_sums_3 : decode cL_sums 3 = .ok (.iload_n 1, 1) := by decide +kernel
theorem dL_sums_4 : decode cL_sums 4 = .ok (.invokevirtual 44, 3) := by decide +kernel
theorem dL_sums_7 : decode cL_sums 7 = .ok (.i2l, 1) := by decide +kernel
theorem dL_sums_8 : decode cL_sums 8 = .ok (.lastore, 1) := by decide +kernel
theorem dL_sums_9 : decode cL_sums 9 = .ok (.goto 6, 3) := by decide +kernel
theorem dL_sums_12 : decode cL_sums 12 = .ok (.astore_n 3, 1) := by decide +kernel
theorem dL_sums_13 : decode cL_sums 13 = .ok (.iconst 1, 1) := by decide +kernel
theorem dL_sums_14 : decode cL_sums 14 = .ok (.ireturn, 1) := by decide +kernel
theorem dL_sums_15 : decode cL_sums 15 = .ok (.iconst 0, 1) := by decide +kernel
theorem dL_sums_16 : decode cL_sums 16 = .ok (.ireturn, 1) := by decide +kernel
theorem ggL_corks_X10_corks : GoodIn wsL_corks wsX10_corks := gW_in gwX10_corks (fun _ h => List.mem_cons_of_mem _ (List.mem_append_right _ (List.mem_append_right _ (List.mem_append_right _ (List.mem_append_right _ (List.mem_append_right _ (List.mem_append_right _ (h))))))))
set_option maxRecDepth 20000 in
theorem gL_corks_X10_corks : GoodIn wsL_corks (wsV RL 47 RX10 yX10_corks wsX10_corks) := goodIn_app (goodIn_of _ (by decide +kernel)) ggL_corks_X10_corks
theorem dL_corks_0 : decode cL_corks 0 = .ok (.aload_n 3, 1) := by decide +kernel
theorem dL_corks_1 : decode cL_corks 1 = .ok (.iconst 0, 1) := by decide +kernel
theorem dL_corks_2 : decode cL_corks 2 = .ok (.aload_n 0, 1) := by decide +kernel
theorem dL_corks_3 : decode cL_corks 3 = .ok (.iload_n 1, 1) := by decide +kernel
theorem dL_corks_4 : decode cL_corks 4 = .ok (.iload_n 2, 1) := by decide +kernel
theorem dL_corks_5 : decode cL_corks 5 = .ok (.invokevirtual 47, 3) := by decide +kernel
theorem dL_corks_8 : decode cL_corks 8 = .ok (.i2l, 1) := by decide +kernel
theorem dL_corks_9 : decode cL_corks 9 = .ok (.lastore, 1) := by decide +kernel
theorem dL_corks_10 : decode cL_corks 10 = .ok (.goto 11, 3) := by decide +kernel
theorem dL_corks_13 : decode cL_corks 13 = .ok (.astore 4, 2) := by decide +kernel
theorem dL_corks_15 : decode cL_corks 15 = .ok (.iconst 1, 1) := by decide +kernel
theorem dL_corks_16 : decode cL_corks 16 = .ok (.ireturn, 1) := by decide +kernel
theorem dL_corks_17 : decode cL_corks 17 = .ok (.astore 4, 2) := by decide +kernel
theorem dL_corks_19 : decode cL_corks 19 = .ok (.iconst 2, 1) := by decide +kernel
theorem dL_corks_20 : decode cL_corks 20 = .ok (.ireturn, 1) := by decide +kernel
theorem dL_corks_21 : decode cL_corks 21 = .ok (.iconst 0, 1) := by decide +kernel
theorem dL_corks_22 : decode cL_corks 22 = .ok (.ireturn, 1) := by decide +kernel
theorem ggL_would_X10_would : GoodIn wsL_would wsX10_would := gW_in gwX10_would (fun _ h => List.mem_cons_of_mem _ (List.mem_append_right _ (List.mem_append_right _ (List.mem_append_right _ (List.mem_append_right _ (List.mem_append_right _ (List.mem_append_right _ (h))))))))
set_option maxRecDepth 20000 in
theorem gL_would_X10_would : GoodIn wsL_would (wsV RL 50 RX10 yX10_would wsX10_would) := goodIn_app (goodIn_of _ (by decide +kernel)) ggL_would_X10_would
theorem dL_would_0 : decode cL_would 0 = .ok (.aload 4, 2) := by decide +kernel
theorem dL_would_2 : decode cL_would 2 = .ok (.iconst 0, 1) := by decide +kernel
theorem dL_would_3 : decode cL_would 3 = .ok (.aload_n 0, 1) := by decide +kernel
theorem dL_would_4 : decode cL_would 4 = .ok (.iload_n 1, 1) := by decide +kernel
theorem dL_would_5 : decode cL_would 5 = .ok (.iload_n 2, 1) := by decide +kernel
theorem dL_would_6 : decode cL_would 6 = .ok (.iload_n 3, 1) := by decide +kernel
theorem dL_would_7 : decode cL_would 7 = .ok (.invokevirtual 50, 3) := by decide +kernel
theorem dL_would_10 : decode cL_would 10 = .ok (.i2l, 1) := by decide +kernel
theorem dL_would_11 : decode cL_would 11 = .ok (.lastore, 1) := by decide +kernel
theorem dL_would_12 : decode cL_would 12 = .ok (.goto 11, 3) := by decide +kernel
theorem dL_would_15 : decode cL_would 15 = .ok (.astore 5, 2) := by decide +kernel
theorem dL_would_17 : decode cL_would 17 = .ok (.iconst 1, 1) := by decide +kernel
theorem dL_would_18 : decode cL_would 18 = .ok (.ireturn, 1) := by decide +kernel
theorem dL_would_19 : decode cL_would 19 = .ok (.astore 5, 2) := by decide +kernel
theorem dL_would_21 : decode cL_would 21 = .ok (.iconst 2, 1) := by decide +kernel
theorem dL_would_22 : decode cL_would 22 = .ok (.ireturn, 1) := by decide +kernel
theorem dL_would_23 : decode cL_would 23 = .ok (.iconst 0, 1) := by decide +kernel
theorem dL_would_24 : decode cL_would 24 = .ok (.ireturn, 1) := by decide +kernel
theorem ggL_best_X10_best : GoodIn wsL_best wsX10_best := gW_in gwX10_best (fun _ h => List.mem_cons_of_mem _ (List.mem_append_right _ (List.mem_append_right _ (List.mem_append_right _ (List.mem_append_right _ (List.mem_append_right _ (List.mem_append_right _ (h))))))))
set_option maxRecDepth 20000 in
theorem gL_best_X10_best : GoodIn wsL_best (wsV RL 54 RX10 yX10_best wsX10_best) := goodIn_app (goodIn_of _ (by decide +kernel)) ggL_best_X10_best
theorem dL_best_0 : decode cL_best 0 = .ok (.aload_n 3, 1) := by decide +kernel
theorem dL_best_1 : decode cL_best 1 = .ok (.iconst 0, 1) := by decide +kernel
theorem dL_best_2 : decode cL_best 2 = .ok (.aload_n 0, 1) := by decide +kernel
theorem dL_best_3 : decode cL_best 3 = .ok (.iload_n 1, 1) := by decide +kernel
theorem dL_best_4 : decode cL_best 4 = .ok (.iload_n 2, 1) := by decide +kernel
theorem dL_best_5 : decode cL_best 5 = .ok (.invokevirtual 54, 3) := by decide +kernel
theorem dL_best_8 : decode cL_best 8 = .ok (.i2l, 1) := by decide +kernel
theorem dL_best_9 : decode cL_best 9 = .ok (.lastore, 1) := by decide +kernel
theorem dL_best_10 : decode cL_best 10 = .ok (.goto 7, 3) := by decide +kernel
theorem dL_best_13 : decode cL_best 13 = .ok (.astore 4, 2) := by decide +kernel
theorem dL_best_15 : decode cL_best 15 = .ok (.iconst 1, 1) := by decide +kernel
theorem dL_best_16 : decode cL_best 16 = .ok (.ireturn, 1) := by decide +kernel
theorem dL_best_17 : decode cL_best 17 = .ok (.iconst 0, 1) := by decide +kernel
theorem dL_best_18 : decode cL_best 18 = .ok (.ireturn, 1) := by decide +kernel
theorem ggL_offer_X10_offer : GoodIn wsL_offer wsX10_offer := gW_in gwX10_offer (fun _ h => List.mem_cons_of_mem _ (List.mem_append_right _ (List.mem_append_right _ (List.mem_append_right _ (List.mem_append_right _ (List.mem_append_right _ (List.mem_append_right _ (h))))))))
set_option maxRecDepth 20000 in
theorem gL_offer_X10_offer : GoodIn wsL_offer (wsV RL 57 RX10 yX10_offer wsX10_offer) := goodIn_app (goodIn_of _ (by decide +kernel)) ggL_offer_X10_offer
theorem dL_offer_0 : decode cL_offer 0 = .ok (.aload_n 3, 1) := by decide +kernel
theorem dL_offer_1 : decode cL_offer 1 = .ok (.iconst 0, 1) := by decide +kernel
theorem dL_offer_2 : decode cL_offer 2 = .ok (.aload_n 0, 1) := by decide +kernel
theorem dL_offer_3 : decode cL_offer 3 = .ok (.iload_n 1, 1) := by decide +kernel
theorem dL_offer_4 : decode cL_offer 4 = .ok (.iload_n 2, 1) := by decide +kernel
theorem dL_offer_5 : decode cL_offer 5 = .ok (.invokevirtual 57, 3) := by decide +kernel
theorem dL_offer_8 : decode cL_offer 8 = .ok (.i2l, 1) := by decide +kernel
theorem dL_offer_9 : decode cL_offer 9 = .ok (.lastore, 1) := by decide +kernel
theorem dL_offer_10 : decode cL_offer 10 = .ok (.goto 7, 3) := by decide +kernel
theorem dL_offer_13 : decode cL_offer 13 = .ok (.astore 4, 2) := by decide +kernel
theorem dL_offer_15 : decode cL_offer 15 = .ok (.iconst 1, 1) := by decide +kernel
theorem dL_offer_16 : decode cL_offer 16 = .ok (.ireturn, 1) := by decide +kernel
theorem dL_offer_17 : decode cL_offer 17 = .ok (.iconst 0, 1) := by decide +kernel
theorem dL_offer_18 : decode cL_offer 18 = .ok (.ireturn, 1) := by decide +kernel
theorem ggL_nearest_X10_nearest : GoodIn wsL_nearest wsX10_nearest := gW_in gwX10_nearest (fun _ h => List.mem_cons_of_mem _ (List.mem_append_right _ (List.mem_append_right _ (List.mem_append_right _ (h)))))
set_option maxRecDepth 20000 in
theorem gL_nearest_X10_nearest : GoodIn wsL_nearest (wsV RL 60 RX10 yX10_nearest wsX10_nearest) := goodIn_app (goodIn_of _ (by decide +kernel)) ggL_nearest_X10_nearest
theorem dL_nearest_0 : decode cL_nearest 0 = .ok (.aload_n 3, 1) := by decide +kernel
theorem dL_nearest_1 : decode cL_nearest 1 = .ok (.iconst 0, 1) := by decide +kernel
theorem dL_nearest_2 : decode cL_nearest 2 = .ok (.aload_n 0, 1) := by decide +kernel
theorem dL_nearest_3 : decode cL_nearest 3 = .ok (.iload_n 1, 1) := by decide +kernel
theorem dL_nearest_4 : decode cL_nearest 4 = .ok (.iload_n 2, 1) := by decide +kernel
theorem dL_nearest_5 : decode cL_nearest 5 = .ok (.invokevirtual 60, 3) := by decide +kernel
theorem dL_nearest_8 : decode cL_nearest 8 = .ok (.i2l, 1) := by decide +kernel
theorem dL_nearest_9 : decode cL_nearest 9 = .ok (.lastore, 1) := by decide +kernel
theorem dL_nearest_10 : decode cL_nearest 10 = .ok (.goto 7, 3) := by decide +kernel
theorem dL_nearest_13 : decode cL_nearest 13 = .ok (.astore 4, 2) := by decide +kernel
theorem dL_nearest_15 : decode cL_nearest 15 = .ok (.iconst 1, 1) := by decide +kernel
theorem dL_nearest_16 : decode cL_nearest 16 = .ok (.ireturn, 1) := by decide +kernel
theorem dL_nearest_17 : decode cL_nearest 17 = .ok (.iconst 0, 1) := by decide +kernel
theorem dL_nearest_18 : decode cL_nearest 18 = .ok (.ireturn, 1) := by decide +kernel
theorem ggL_stop_X10_stop : GoodIn wsL_stop wsX10_stop := gW_in gwX10_stop (fun _ h => List.mem_cons_of_mem _ (List.mem_append_right _ (List.mem_append_right _ (List.mem_append_right _ (List.mem_append_right _ (List.mem_append_right _ (List.mem_append_right _ (h))))))))
set_option maxRecDepth 20000 in
theorem gL_stop_X10_stop : GoodIn wsL_stop (wsV RL 63 RX10 yX10_stop wsX10_stop) := goodIn_app (goodIn_of _ (by decide +kernel)) ggL_stop_X10_stop
theorem dL_stop_0 : decode cL_stop 0 = .ok (.aload_n 3, 1) := by decide +kernel
theorem dL_stop_1 : decode cL_stop 1 = .ok (.iconst 0, 1) := by decide +kernel
theorem dL_stop_2 : decode cL_stop 2 = .ok (.aload_n 0, 1) := by decide +kernel
theorem dL_stop_3 : decode cL_stop 3 = .ok (.iload_n 1, 1) := by decide +kernel
theorem dL_stop_4 : decode cL_stop 4 = .ok (.iload_n 2, 1) := by decide +kernel
theorem dL_stop_5 : decode cL_stop 5 = .ok (.invokevirtual 63, 3) := by decide +kernel
theorem dL_stop_8 : decode cL_stop 8 = .ok (.i2l, 1) := by decide +kernel
theorem dL_stop_9 : decode cL_stop 9 = .ok (.lastore, 1) := by decide +kernel
theorem dL_stop_10 : decode cL_stop 10 = .ok (.goto 7, 3) := by decide +kernel
theorem dL_stop_13 : decode cL_stop 13 = .ok (.astore 4, 2) := by decide +kernel
theorem dL_stop_15 : decode cL_stop 15 = .ok (.iconst 1, 1) := by decide +kernel
theorem dL_stop_16 : decode cL_stop 16 = .ok (.ireturn, 1) := by decide +kernel
theorem dL_stop_17 : decode cL_stop 17 = .ok (.iconst 0, 1) := by decide +kernel
theorem dL_stop_18 : decode cL_stop 18 = .ok (.ireturn, 1) := by decide +kernel
theorem ggL_odds_X10_odds : GoodIn wsL_odds wsX10_odds := gW_in gwX10_odds (fun _ h => List.mem_cons_of_mem _ (List.mem_append_right _ (List.mem_append_right _ (List.mem_append_right _ (List.mem_append_right _ (h))))))
set_option maxRecDepth 20000 in
theorem gL_odds_X10_odds : GoodIn wsL_odds (wsV RL 66 RX10 yX10_odds wsX10_odds) := goodIn_app (goodIn_of _ (by decide +kernel)) ggL_odds_X10_odds
theorem dL_odds_0 : decode cL_odds 0 = .ok (.aload_n 0, 1) := by decide +kernel
theorem dL_odds_1 : decode cL_odds 1 = .ok (.iload_n 1, 1) := by decide +kernel
theorem dL_odds_2 : decode cL_odds 2 = .ok (.iload_n 2, 1) := by decide +kernel
theorem dL_odds_3 : decode cL_odds 3 = .ok (.invokevirtual 66, 3) := by decide +kernel
theorem dL_odds_6 : decode cL_odds 6 = .ok (.goto 6, 3) := by decide +kernel
theorem dL_odds_9 : decode cL_odds 9 = .ok (.astore_n 3, 1) := by decide +kernel
theorem dL_odds_10 : decode cL_odds 10 = .ok (.iconst 1, 1) := by decide +kernel
theorem dL_odds_11 : decode cL_odds 11 = .ok (.ireturn, 1) := by decide +kernel
theorem dL_odds_12 : decode cL_odds 12 = .ok (.iconst 0, 1) := by decide +kernel
theorem dL_odds_13 : decode cL_odds 13 = .ok (.ireturn, 1) := by decide +kernel
theorem ggL_kind_X10_kind : GoodIn wsL_kind wsX10_kind := gW_in gwX10_kind (fun _ h => List.mem_cons_of_mem _ (List.mem_append_right _ (List.mem_append_right _ (List.mem_append_right _ (List.mem_append_right _ (h))))))
set_option maxRecDepth 20000 in
theorem gL_kind_X10_kind : GoodIn wsL_kind (wsV RL 70 RX10 yX10_kind wsX10_kind) := goodIn_app (goodIn_of _ (by decide +kernel)) ggL_kind_X10_kind
theorem dL_kind_0 : decode cL_kind 0 = .ok (.aload_n 0, 1) := by decide +kernel
theorem dL_kind_1 : decode cL_kind 1 = .ok (.iload_n 1, 1) := by decide +kernel
theorem dL_kind_2 : decode cL_kind 2 = .ok (.iload_n 2, 1) := by decide +kernel
theorem dL_kind_3 : decode cL_kind 3 = .ok (.iload_n 3, 1) := by decide +kernel
theorem dL_kind_4 : decode cL_kind 4 = .ok (.invokevirtual 70, 3) := by decide +kernel
theorem dL_kind_7 : decode cL_kind 7 = .ok (.goto 7, 3) := by decide +kernel
theorem dL_kind_10 : decode cL_kind 10 = .ok (.astore 4, 2) := by decide +kernel
theorem dL_kind_12 : decode cL_kind 12 = .ok (.iconst 1, 1) := by decide +kernel
theorem dL_kind_13 : decode cL_kind 13 = .ok (.ireturn, 1) := by decide +kernel
theorem dL_kind_14 : decode cL_kind 14 = .ok (.iconst 0, 1) := by decide +kernel
theorem dL_kind_15 : decode cL_kind 15 = .ok (.ireturn, 1) := by decide +kernel
