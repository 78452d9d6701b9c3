set_option maxRecDepth 20000 in
theorem wsL_in_wsL_law0_r29 : GoodIn lw_tbl wsL_law0_r29 := goodIn_p wsL_law0_r29 [1111, 1115, 1119, 1124] (by decide +kernel) (by decide +kernel)
set_option maxRecDepth 20000 in
theorem wsL_in_wsL_law0_r30 : GoodIn lw_tbl wsL_law0_r30 := goodIn_p wsL_law0_r30 [1128, 878, 1133, 1138, 1142] (by decide +kernel) (by decide +kernel)
set_option maxRecDepth 20000 in
theorem wsL_in_wsL_law0_r31 : GoodIn lw_tbl wsL_law0_r31 := goodIn_p wsL_law0_r31 [1147, 1151, 1155, 1160, 1164] (by decide +kernel) (by decide +kernel)
set_option maxRecDepth 20000 in
theorem wsL_in_wsL_law0_r32 : GoodIn lw_tbl wsL_law0_r32 := goodIn_p wsL_law0_r32 [857, 1169, 845, 820, 849] (by decide +kernel) (by decide +kernel)
set_option maxRecDepth 20000 in
theorem wsL_in_wsL_law0_r33 : GoodIn lw_tbl wsL_law0_r33 := goodIn_p wsL_law0_r33 [825, 853, 861, 1175, 963, 808] (by decide +kernel) (by decide +kernel)
set_option maxRecDepth 20000 in
theorem wsL_in_wsL_law0_r34 : GoodIn lw_tbl wsL_law0_r34 := goodIn_p wsL_law0_r34 [940, 943, 949, 952, 1180] (by decide +kernel) (by decide +kernel)
set_option maxRecDepth 20000 in
theorem wsL_in_wsL_law0_r35 : GoodIn lw_tbl wsL_law0_r35 := goodIn_p wsL_law0_r35 [1184, 882, 887, 891, 970] (by decide +kernel) (by decide +kernel)
set_option maxRecDepth 20000 in
theorem wsL_in_wsL_law0_r36 : GoodIn lw_tbl wsL_law0_r36 := goodIn_p wsL_law0_r36 [829, 977, 1191, 1195, 927] (by decide +kernel) (by decide +kernel)
set_option maxRecDepth 20000 in
theorem wsL_in_wsL_law0_r37 : GoodIn lw_tbl wsL_law0_r37 := goodIn_p wsL_law0_r37 [931, 936, 956] (by decide +kernel) (by decide +kernel)
set_option maxRecDepth 20000 in
theorem wsL_in_wsL_law0_r38 : GoodIn lw_tbl wsL_law0_r38 := goodIn_p wsL_law0_r38 [1689, 1693, 1665, 1697, 1701, 1578] (by decide +kernel) (by decide +kernel)
set_option maxRecDepth 20000 in
theorem wsL_in_wsL_law0_r39 : GoodIn lw_tbl wsL_law0_r39 := goodIn_p wsL_law0_r39 [1581, 1681, 1705, 1710, 1677] (by decide +kernel) (by decide +kernel)
set_option maxRecDepth 20000 in
theorem wsL_in_wsL_law0_r40 : GoodIn lw_tbl wsL_law0_r40 := goodIn_p wsL_law0_r40 [1714, 1632, 1616, 1673, 1649, 1603] (by decide +kernel) (by decide +kernel)
set_option maxRecDepth 20000 in
theorem wsL_in_wsL_law0_r41 : GoodIn lw_tbl wsL_law0_r41 := goodIn_p wsL_law0_r41 [1718, 1595, 1722, 1640, 1644, 1653] (by decide +kernel) (by decide +kernel)
set_option maxRecDepth 20000 in
theorem wsL_in_wsL_law0_r42 : GoodIn lw_tbl wsL_law0_r42 := goodIn_p wsL_law0_r42 [1620, 1624, 1599, 1607, 1612, 1591] (by decide +kernel) (by decide +kernel)
