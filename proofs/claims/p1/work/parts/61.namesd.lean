set_option maxRecDepth 20000 in
theorem wsL_in_wsL_law0_r43 : GoodIn lw_tbl wsL_law0_r43 := goodIn_p wsL_law0_r43 [1726, 1587, 1202, 1207, 1211] (by decide +kernel) (by decide +kernel)
set_option maxRecDepth 20000 in
theorem wsL_in_wsL_law0_r44 : GoodIn lw_tbl wsL_law0_r44 := goodIn_p wsL_law0_r44 [1215, 1219, 1228] (by decide +kernel) (by decide +kernel)
set_option maxRecDepth 20000 in
theorem wsL_in_wsL_law0_r45 : GoodIn lw_tbl wsL_law0_r45 := goodIn_p wsL_law0_r45 [900, 788, 906, 1566, 1570, 1574] (by decide +kernel) (by decide +kernel)
set_option maxRecDepth 20000 in
theorem wsL_in_wsL_law0_r46 : GoodIn lw_tbl wsL_law0_r46 := goodIn_p wsL_law0_r46 [1628, 1636, 1657, 1236, 896] (by decide +kernel) (by decide +kernel)
set_option maxRecDepth 20000 in
theorem wsL_in_wsL_law0_r47 : GoodIn lw_tbl wsL_law0_r47 := goodIn_p wsL_law0_r47 [912, 917, 923, 1661] (by decide +kernel) (by decide +kernel)
set_option maxRecDepth 20000 in
theorem wsL_in_wsL_law0_r48 : GoodIn lw_tbl wsL_law0_r48 := goodIn_p wsL_law0_r48 [1669, 785, 1685, 792, 796] (by decide +kernel) (by decide +kernel)
set_option maxRecDepth 20000 in
theorem wsL_in_wsL_law0_r49 : GoodIn lw_tbl wsL_law0_r49 := goodIn_p wsL_law0_r49 [800, 804, 816, 1730, 1734, 1738] (by decide +kernel) (by decide +kernel)
set_option maxRecDepth 20000 in
theorem wsL_in_wsL_law0_r50 : GoodIn lw_tbl wsL_law0_r50 := goodIn_p wsL_law0_r50 [1742, 833, 1746, 837, 841] (by decide +kernel) (by decide +kernel)
set_option maxRecDepth 20000 in
theorem wsL_in_wsL_law0_r51 : GoodIn lw_tbl wsL_law0_r51 := goodIn_p wsL_law0_r51 [1750, 865, 869, 873] (by decide +kernel) (by decide +kernel)
set_option maxRecDepth 20000 in
theorem wsL_in_wsL_law0_r52 : GoodIn lw_tbl wsL_law0_r52 := goodIn_p wsL_law0_r52 [1754] (by decide +kernel) (by decide +kernel)
theorem wsL_in_wsX110 : GoodIn lw_tbl wsX110 := goodIn_of _ (by decide +kernel)
theorem wsL_in_wsX120 : GoodIn lw_tbl wsX120 := goodIn_of _ (by decide +kernel)
theorem wsL_in_wsX100 : GoodIn lw_tbl wsX100 := goodIn_of _ (by decide +kernel)
theorem wsL_in_wsX80 : GoodIn lw_tbl wsX80 := goodIn_of _ (by decide +kernel)
