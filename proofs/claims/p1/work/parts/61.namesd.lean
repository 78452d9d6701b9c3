set_option maxRecDepth 20000 in
theorem wsL_in_wsL_law0_r43 : GoodIn lw_tbl wsL_law0_r43 := goodIn_p wsL_law0_r43 [1593, 1728, 1589, 1204, 1209] (by decide +kernel) (by decide +kernel)
set_option maxRecDepth 20000 in
theorem wsL_in_wsL_law0_r44 : GoodIn lw_tbl wsL_law0_r44 := goodIn_p wsL_law0_r44 [1213, 1217, 1221, 1230] (by decide +kernel) (by decide +kernel)
set_option maxRecDepth 20000 in
theorem wsL_in_wsL_law0_r45 : GoodIn lw_tbl wsL_law0_r45 := goodIn_p wsL_law0_r45 [903, 791, 909, 1568, 1572] (by decide +kernel) (by decide +kernel)
set_option maxRecDepth 20000 in
theorem wsL_in_wsL_law0_r46 : GoodIn lw_tbl wsL_law0_r46 := goodIn_p wsL_law0_r46 [1576, 1630, 1638, 1659, 1238] (by decide +kernel) (by decide +kernel)
set_option maxRecDepth 20000 in
theorem wsL_in_wsL_law0_r47 : GoodIn lw_tbl wsL_law0_r47 := goodIn_p wsL_law0_r47 [899, 915, 920, 926] (by decide +kernel) (by decide +kernel)
set_option maxRecDepth 20000 in
theorem wsL_in_wsL_law0_r48 : GoodIn lw_tbl wsL_law0_r48 := goodIn_p wsL_law0_r48 [1663, 1671, 788, 1687, 795, 799] (by decide +kernel) (by decide +kernel)
set_option maxRecDepth 20000 in
theorem wsL_in_wsL_law0_r49 : GoodIn lw_tbl wsL_law0_r49 := goodIn_p wsL_law0_r49 [803, 807, 819, 1732, 1736] (by decide +kernel) (by decide +kernel)
set_option maxRecDepth 20000 in
theorem wsL_in_wsL_law0_r50 : GoodIn lw_tbl wsL_law0_r50 := goodIn_p wsL_law0_r50 [1740, 1744, 836, 1748, 840, 844] (by decide +kernel) (by decide +kernel)
set_option maxRecDepth 20000 in
theorem wsL_in_wsL_law0_r51 : GoodIn lw_tbl wsL_law0_r51 := goodIn_p wsL_law0_r51 [1752, 868, 872, 876] (by decide +kernel) (by decide +kernel)
set_option maxRecDepth 20000 in
theorem wsL_in_wsL_law0_r52 : GoodIn lw_tbl wsL_law0_r52 := goodIn_p wsL_law0_r52 [1756] (by decide +kernel) (by decide +kernel)
theorem wsL_in_wsX110 : GoodIn lw_tbl wsX110 := goodIn_of _ (by decide +kernel)
theorem wsL_in_wsX120 : GoodIn lw_tbl wsX120 := goodIn_of _ (by decide +kernel)
theorem wsL_in_wsX50 : GoodIn lw_tbl wsX50 := goodIn_of _ (by decide +kernel)
theorem wsL_in_wsX80 : GoodIn lw_tbl wsX80 := goodIn_of _ (by decide +kernel)
