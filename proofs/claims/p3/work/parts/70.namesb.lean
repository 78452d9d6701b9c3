set_option maxRecDepth 20000 in
theorem wsL_in_wsL_law0_r15 : GoodIn lw_tbl wsL_law0_r15 := goodIn_p wsL_law0_r15 [636, 639, 642, 662, 666] (by decide +kernel) (by decide +kernel)
set_option maxRecDepth 20000 in
theorem wsL_in_wsL_law0_r16 : GoodIn lw_tbl wsL_law0_r16 := goodIn_p wsL_law0_r16 [670, 674, 678, 681, 685, 649, 652] (by decide +kernel) (by decide +kernel)
set_option maxRecDepth 20000 in
theorem wsL_in_wsL_law0_r17 : GoodIn lw_tbl wsL_law0_r17 := goodIn_p wsL_law0_r17 [658, 689, 693, 697, 701] (by decide +kernel) (by decide +kernel)
set_option maxRecDepth 20000 in
theorem wsL_in_wsL_law0_r18 : GoodIn lw_tbl wsL_law0_r18 := goodIn_p wsL_law0_r18 [705, 708, 712, 718, 722, 726] (by decide +kernel) (by decide +kernel)
set_option maxRecDepth 20000 in
theorem wsL_in_wsL_law0_r19 : GoodIn lw_tbl wsL_law0_r19 := goodIn_p wsL_law0_r19 [1433, 1437, 1440, 1443, 1447] (by decide +kernel) (by decide +kernel)
set_option maxRecDepth 20000 in
theorem wsL_in_wsL_law0_r20 : GoodIn lw_tbl wsL_law0_r20 := goodIn_p wsL_law0_r20 [1451, 1455, 1459, 1463, 1467] (by decide +kernel) (by decide +kernel)
set_option maxRecDepth 20000 in
theorem wsL_in_wsL_law0_r21 : GoodIn lw_tbl wsL_law0_r21 := goodIn_p wsL_law0_r21 [1471, 1475, 1478, 1483, 1487, 1491] (by decide +kernel) (by decide +kernel)
set_option maxRecDepth 20000 in
theorem wsL_in_wsL_law0_r22 : GoodIn lw_tbl wsL_law0_r22 := goodIn_p wsL_law0_r22 [1495, 1499, 1503, 1507, 1511] (by decide +kernel) (by decide +kernel)
set_option maxRecDepth 20000 in
theorem wsL_in_wsL_law0_r23 : GoodIn lw_tbl wsL_law0_r23 := goodIn_p wsL_law0_r23 [730, 1516, 734, 1520, 738, 742] (by decide +kernel) (by decide +kernel)
set_option maxRecDepth 20000 in
theorem wsL_in_wsL_law0_r24 : GoodIn lw_tbl wsL_law0_r24 := goodIn_p wsL_law0_r24 [745, 749, 1524, 1528, 1532, 753] (by decide +kernel) (by decide +kernel)
set_option maxRecDepth 20000 in
theorem wsL_in_wsL_law0_r25 : GoodIn lw_tbl wsL_law0_r25 := goodIn_p wsL_law0_r25 [757, 1536, 1540, 761, 1544] (by decide +kernel) (by decide +kernel)
set_option maxRecDepth 20000 in
theorem wsL_in_wsL_law0_r26 : GoodIn lw_tbl wsL_law0_r26 := goodIn_p wsL_law0_r26 [991, 995, 1084] (by decide +kernel) (by decide +kernel)
set_option maxRecDepth 20000 in
theorem wsL_in_wsL_law0_r27 : GoodIn lw_tbl wsL_law0_r27 := goodIn_p wsL_law0_r27 [1548, 1552, 766, 770, 774, 778] (by decide +kernel) (by decide +kernel)
set_option maxRecDepth 20000 in
theorem wsL_in_wsL_law0_r28 : GoodIn lw_tbl wsL_law0_r28 := goodIn_p wsL_law0_r28 [783, 1556, 1560, 1093] (by decide +kernel) (by decide +kernel)
