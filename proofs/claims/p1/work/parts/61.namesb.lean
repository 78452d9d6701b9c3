set_option maxRecDepth 20000 in
theorem wsL_in_wsL_law0_r15 : GoodIn lw_tbl wsL_law0_r15 := goodIn_p wsL_law0_r15 [636, 639, 642, 664, 668] (by decide +kernel) (by decide +kernel)
set_option maxRecDepth 20000 in
theorem wsL_in_wsL_law0_r16 : GoodIn lw_tbl wsL_law0_r16 := goodIn_p wsL_law0_r16 [672, 676, 680, 683, 687, 652, 655] (by decide +kernel) (by decide +kernel)
set_option maxRecDepth 20000 in
theorem wsL_in_wsL_law0_r17 : GoodIn lw_tbl wsL_law0_r17 := goodIn_p wsL_law0_r17 [660, 691, 695, 699, 703] (by decide +kernel) (by decide +kernel)
set_option maxRecDepth 20000 in
theorem wsL_in_wsL_law0_r18 : GoodIn lw_tbl wsL_law0_r18 := goodIn_p wsL_law0_r18 [707, 710, 714, 720, 724, 1435] (by decide +kernel) (by decide +kernel)
set_option maxRecDepth 20000 in
theorem wsL_in_wsL_law0_r19 : GoodIn lw_tbl wsL_law0_r19 := goodIn_p wsL_law0_r19 [1439, 1442, 1445, 1449, 1453] (by decide +kernel) (by decide +kernel)
set_option maxRecDepth 20000 in
theorem wsL_in_wsL_law0_r20 : GoodIn lw_tbl wsL_law0_r20 := goodIn_p wsL_law0_r20 [1457, 1461, 1465, 1469, 1473] (by decide +kernel) (by decide +kernel)
set_option maxRecDepth 20000 in
theorem wsL_in_wsL_law0_r21 : GoodIn lw_tbl wsL_law0_r21 := goodIn_p wsL_law0_r21 [1477, 1480, 1485, 1489, 1493, 1497] (by decide +kernel) (by decide +kernel)
set_option maxRecDepth 20000 in
theorem wsL_in_wsL_law0_r22 : GoodIn lw_tbl wsL_law0_r22 := goodIn_p wsL_law0_r22 [1501, 1505, 1509, 1513, 728] (by decide +kernel) (by decide +kernel)
set_option maxRecDepth 20000 in
theorem wsL_in_wsL_law0_r23 : GoodIn lw_tbl wsL_law0_r23 := goodIn_p wsL_law0_r23 [1518, 732, 1522, 736, 740, 743] (by decide +kernel) (by decide +kernel)
set_option maxRecDepth 20000 in
theorem wsL_in_wsL_law0_r24 : GoodIn lw_tbl wsL_law0_r24 := goodIn_p wsL_law0_r24 [747, 1526, 1530, 1534, 751] (by decide +kernel) (by decide +kernel)
set_option maxRecDepth 20000 in
theorem wsL_in_wsL_law0_r25 : GoodIn lw_tbl wsL_law0_r25 := goodIn_p wsL_law0_r25 [755, 1538, 1542, 759, 1546] (by decide +kernel) (by decide +kernel)
set_option maxRecDepth 20000 in
theorem wsL_in_wsL_law0_r26 : GoodIn lw_tbl wsL_law0_r26 := goodIn_p wsL_law0_r26 [988, 992, 1081, 1550] (by decide +kernel) (by decide +kernel)
set_option maxRecDepth 20000 in
theorem wsL_in_wsL_law0_r27 : GoodIn lw_tbl wsL_law0_r27 := goodIn_p wsL_law0_r27 [1554, 1424, 764, 768, 772] (by decide +kernel) (by decide +kernel)
set_option maxRecDepth 20000 in
theorem wsL_in_wsL_law0_r28 : GoodIn lw_tbl wsL_law0_r28 := goodIn_p wsL_law0_r28 [776, 781, 1558, 1562, 1091] (by decide +kernel) (by decide +kernel)
