set_option maxRecDepth 20000 in
theorem wsL_in_wsL_law0_r29 : GoodIn lw_tbl wsL_law0_r29 := goodIn_p wsL_law0_r29 [1113, 1117, 1121] (by decide +kernel) (by decide +kernel)
set_option maxRecDepth 20000 in
theorem wsL_in_wsL_law0_r30 : GoodIn lw_tbl wsL_law0_r30 := goodIn_p wsL_law0_r30 [1126, 1130, 881, 1135, 1140] (by decide +kernel) (by decide +kernel)
set_option maxRecDepth 20000 in
theorem wsL_in_wsL_law0_r31 : GoodIn lw_tbl wsL_law0_r31 := goodIn_p wsL_law0_r31 [1144, 1149, 1153, 1157, 1162] (by decide +kernel) (by decide +kernel)
set_option maxRecDepth 20000 in
theorem wsL_in_wsL_law0_r32 : GoodIn lw_tbl wsL_law0_r32 := goodIn_p wsL_law0_r32 [1166, 860, 1171, 848, 823, 852] (by decide +kernel) (by decide +kernel)
set_option maxRecDepth 20000 in
theorem wsL_in_wsL_law0_r33 : GoodIn lw_tbl wsL_law0_r33 := goodIn_p wsL_law0_r33 [828, 856, 864, 1177, 966] (by decide +kernel) (by decide +kernel)
set_option maxRecDepth 20000 in
theorem wsL_in_wsL_law0_r34 : GoodIn lw_tbl wsL_law0_r34 := goodIn_p wsL_law0_r34 [811, 943, 946, 952, 955] (by decide +kernel) (by decide +kernel)
set_option maxRecDepth 20000 in
theorem wsL_in_wsL_law0_r35 : GoodIn lw_tbl wsL_law0_r35 := goodIn_p wsL_law0_r35 [1182, 1186, 885, 890, 894] (by decide +kernel) (by decide +kernel)
set_option maxRecDepth 20000 in
theorem wsL_in_wsL_law0_r36 : GoodIn lw_tbl wsL_law0_r36 := goodIn_p wsL_law0_r36 [973, 832, 980, 1193, 1197] (by decide +kernel) (by decide +kernel)
set_option maxRecDepth 20000 in
theorem wsL_in_wsL_law0_r37 : GoodIn lw_tbl wsL_law0_r37 := goodIn_p wsL_law0_r37 [930, 934, 939, 959] (by decide +kernel) (by decide +kernel)
set_option maxRecDepth 20000 in
theorem wsL_in_wsL_law0_r38 : GoodIn lw_tbl wsL_law0_r38 := goodIn_p wsL_law0_r38 [1691, 1695, 1667, 1699, 1703] (by decide +kernel) (by decide +kernel)
set_option maxRecDepth 20000 in
theorem wsL_in_wsL_law0_r39 : GoodIn lw_tbl wsL_law0_r39 := goodIn_p wsL_law0_r39 [1580, 1583, 1683, 1707, 1712] (by decide +kernel) (by decide +kernel)
set_option maxRecDepth 20000 in
theorem wsL_in_wsL_law0_r40 : GoodIn lw_tbl wsL_law0_r40 := goodIn_p wsL_law0_r40 [1679, 1716, 1634, 1618, 1675, 1651] (by decide +kernel) (by decide +kernel)
set_option maxRecDepth 20000 in
theorem wsL_in_wsL_law0_r41 : GoodIn lw_tbl wsL_law0_r41 := goodIn_p wsL_law0_r41 [1605, 1720, 1597, 1724, 1642, 1646] (by decide +kernel) (by decide +kernel)
set_option maxRecDepth 20000 in
theorem wsL_in_wsL_law0_r42 : GoodIn lw_tbl wsL_law0_r42 := goodIn_p wsL_law0_r42 [1655, 1622, 1626, 1601, 1609, 1614] (by decide +kernel) (by decide +kernel)
