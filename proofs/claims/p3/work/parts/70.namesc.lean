set_option maxRecDepth 20000 in
theorem wsL_in_wsL_law0_r29 : GoodIn lw_tbl wsL_law0_r29 := goodIn_p wsL_law0_r29 [1113, 1117, 1121, 1126] (by decide +kernel) (by decide +kernel)
set_option maxRecDepth 20000 in
theorem wsL_in_wsL_law0_r30 : GoodIn lw_tbl wsL_law0_r30 := goodIn_p wsL_law0_r30 [1130, 881, 1135, 1140, 1144] (by decide +kernel) (by decide +kernel)
set_option maxRecDepth 20000 in
theorem wsL_in_wsL_law0_r31 : GoodIn lw_tbl wsL_law0_r31 := goodIn_p wsL_law0_r31 [1149, 1153, 1157, 1162, 1166] (by decide +kernel) (by decide +kernel)
set_option maxRecDepth 20000 in
theorem wsL_in_wsL_law0_r32 : GoodIn lw_tbl wsL_law0_r32 := goodIn_p wsL_law0_r32 [860, 1171, 848, 823, 852, 828] (by decide +kernel) (by decide +kernel)
set_option maxRecDepth 20000 in
theorem wsL_in_wsL_law0_r33 : GoodIn lw_tbl wsL_law0_r33 := goodIn_p wsL_law0_r33 [856, 864, 1177, 966, 811] (by decide +kernel) (by decide +kernel)
set_option maxRecDepth 20000 in
theorem wsL_in_wsL_law0_r34 : GoodIn lw_tbl wsL_law0_r34 := goodIn_p wsL_law0_r34 [943, 946, 952, 955, 1182] (by decide +kernel) (by decide +kernel)
set_option maxRecDepth 20000 in
theorem wsL_in_wsL_law0_r35 : GoodIn lw_tbl wsL_law0_r35 := goodIn_p wsL_law0_r35 [1186, 885, 890, 894, 973] (by decide +kernel) (by decide +kernel)
set_option maxRecDepth 20000 in
theorem wsL_in_wsL_law0_r36 : GoodIn lw_tbl wsL_law0_r36 := goodIn_p wsL_law0_r36 [832, 980, 1193, 1197, 930] (by decide +kernel) (by decide +kernel)
set_option maxRecDepth 20000 in
theorem wsL_in_wsL_law0_r37 : GoodIn lw_tbl wsL_law0_r37 := goodIn_p wsL_law0_r37 [934, 939, 959] (by decide +kernel) (by decide +kernel)
set_option maxRecDepth 20000 in
theorem wsL_in_wsL_law0_r38 : GoodIn lw_tbl wsL_law0_r38 := goodIn_p wsL_law0_r38 [1687, 1691, 1663, 1695, 1699, 1576] (by decide +kernel) (by decide +kernel)
set_option maxRecDepth 20000 in
theorem wsL_in_wsL_law0_r39 : GoodIn lw_tbl wsL_law0_r39 := goodIn_p wsL_law0_r39 [1579, 1679, 1703, 1708, 1675] (by decide +kernel) (by decide +kernel)
set_option maxRecDepth 20000 in
theorem wsL_in_wsL_law0_r40 : GoodIn lw_tbl wsL_law0_r40 := goodIn_p wsL_law0_r40 [1712, 1630, 1614, 1671, 1647, 1601] (by decide +kernel) (by decide +kernel)
set_option maxRecDepth 20000 in
theorem wsL_in_wsL_law0_r41 : GoodIn lw_tbl wsL_law0_r41 := goodIn_p wsL_law0_r41 [1716, 1593, 1720, 1638, 1642, 1651] (by decide +kernel) (by decide +kernel)
set_option maxRecDepth 20000 in
theorem wsL_in_wsL_law0_r42 : GoodIn lw_tbl wsL_law0_r42 := goodIn_p wsL_law0_r42 [1618, 1622, 1597, 1605, 1610, 1589] (by decide +kernel) (by decide +kernel)
