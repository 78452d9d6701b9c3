set_option maxRecDepth 20000 in
theorem wsL_in_wsL_law0_r43 : GoodIn lw_tbl wsL_law0_r43 := goodIn_p wsL_law0_r43 [1724, 1585, 1204, 1209, 1213] (by decide +kernel) (by decide +kernel)
set_option maxRecDepth 20000 in
theorem wsL_in_wsL_law0_r44 : GoodIn lw_tbl wsL_law0_r44 := goodIn_p wsL_law0_r44 [1217, 1221, 1230] (by decide +kernel) (by decide +kernel)
set_option maxRecDepth 20000 in
theorem wsL_in_wsL_law0_r45 : GoodIn lw_tbl wsL_law0_r45 := goodIn_p wsL_law0_r45 [903, 791, 909, 1564, 1568, 1572] (by decide +kernel) (by decide +kernel)
set_option maxRecDepth 20000 in
theorem wsL_in_wsL_law0_r46 : GoodIn lw_tbl wsL_law0_r46 := goodIn_p wsL_law0_r46 [1626, 1634, 1655, 1238, 899] (by decide +kernel) (by decide +kernel)
set_option maxRecDepth 20000 in
theorem wsL_in_wsL_law0_r47 : GoodIn lw_tbl wsL_law0_r47 := goodIn_p wsL_law0_r47 [915, 920, 926, 1659] (by decide +kernel) (by decide +kernel)
set_option maxRecDepth 20000 in
theorem wsL_in_wsL_law0_r48 : GoodIn lw_tbl wsL_law0_r48 := goodIn_p wsL_law0_r48 [1667, 788, 1683, 795, 799, 803] (by decide +kernel) (by decide +kernel)
set_option maxRecDepth 20000 in
theorem wsL_in_wsL_law0_r49 : GoodIn lw_tbl wsL_law0_r49 := goodIn_p wsL_law0_r49 [807, 819, 1728, 1732, 1736] (by decide +kernel) (by decide +kernel)
set_option maxRecDepth 20000 in
theorem wsL_in_wsL_law0_r50 : GoodIn lw_tbl wsL_law0_r50 := goodIn_p wsL_law0_r50 [1740, 836, 1744, 840, 844, 1748] (by decide +kernel) (by decide +kernel)
set_option maxRecDepth 20000 in
theorem wsL_in_wsL_law0_r51 : GoodIn lw_tbl wsL_law0_r51 := goodIn_p wsL_law0_r51 [868, 872, 876] (by decide +kernel) (by decide +kernel)
set_option maxRecDepth 20000 in
theorem wsL_in_wsL_law0_r52 : GoodIn lw_tbl wsL_law0_r52 := goodIn_p wsL_law0_r52 [1752] (by decide +kernel) (by decide +kernel)
theorem wsL_in_wsX110 : GoodIn lw_tbl wsX110 := goodIn_of _ (by decide +kernel)
theorem wsL_in_wsX120 : GoodIn lw_tbl wsX120 := goodIn_of _ (by decide +kernel)
theorem wsL_in_wsX50 : GoodIn lw_tbl wsX50 := goodIn_of _ (by decide +kernel)
theorem wsL_in_wsX80 : GoodIn lw_tbl wsX80 := goodIn_of _ (by decide +kernel)
