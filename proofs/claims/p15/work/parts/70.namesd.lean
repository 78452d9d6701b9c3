set_option maxRecDepth 20000 in
theorem wsL_in_wsL_law0_r43 : GoodIn lw_tbl wsL_law0_r43 := goodIn_t lw_cTin _ [(7, 169, 1), (0, 110, 1), (7, 170, 1), (7, 28, 1), (7, 30, 1), (0, 79, 1), (7, 31, 1), (5, 124, 7), (5, 132, 1), (5, 134, 1), (0, 51, 1), (5, 135, 5), (2, 143, 1), (1, 115, 1)] rfl (by decide +kernel)
set_option maxRecDepth 20000 in
theorem wsL_in_wsL_law0_r44 : GoodIn lw_tbl wsL_law0_r44 := goodIn_t lw_cTin _ [(5, 140, 1), (5, 142, 1), (0, 52, 1), (5, 143, 2), (5, 146, 1), (0, 53, 1), (5, 147, 1), (1, 105, 1), (5, 148, 9), (1, 144, 1), (1, 109, 1), (2, 141, 1), (4, 66, 1), (4, 68, 1), (0, 31, 1)] rfl (by decide +kernel)
set_option maxRecDepth 20000 in
theorem wsL_in_wsL_law0_r45 : GoodIn lw_tbl wsL_law0_r45 := goodIn_t lw_cTin _ [(4, 69, 1), (3, 196, 2), (4, 71, 7), (5, 157, 1), (7, 7, 5), (7, 13, 1), (0, 76, 1), (7, 14, 2), (7, 17, 1), (0, 77, 1), (7, 18, 1), (7, 69, 1)] rfl (by decide +kernel)
set_option maxRecDepth 20000 in
theorem wsL_in_wsL_law0_r46 : GoodIn lw_tbl wsL_law0_r46 := goodIn_t lw_cTin _ [(7, 71, 1), (0, 89, 1), (7, 72, 1), (7, 77, 1), (7, 79, 1), (0, 91, 1), (7, 80, 1), (7, 98, 1), (7, 100, 1), (0, 96, 1), (7, 101, 1), (5, 158, 7), (3, 195, 1), (4, 62, 4), (1, 87, 1)] rfl (by decide +kernel)
set_option maxRecDepth 20000 in
theorem wsL_in_wsL_law0_r47 : GoodIn lw_tbl wsL_law0_r47 := goodIn_t lw_cTin _ [(1, 119, 1), (1, 114, 1), (4, 78, 1), (4, 80, 1), (0, 32, 1), (4, 81, 1), (1, 96, 1), (4, 82, 2), (4, 85, 1), (0, 33, 1), (4, 86, 1), (1, 103, 1), (4, 87, 6), (7, 102, 4), (7, 110, 1)] rfl (by decide +kernel)
set_option maxRecDepth 20000 in
theorem wsL_in_wsL_law0_r48 : GoodIn lw_tbl wsL_law0_r48 := goodIn_t lw_cTin _ [(7, 112, 1), (0, 98, 1), (7, 113, 1), (3, 191, 4), (2, 67, 1), (7, 126, 4), (3, 198, 5), (3, 204, 1), (0, 25, 1), (3, 205, 5)] rfl (by decide +kernel)
set_option maxRecDepth 20000 in
theorem wsL_in_wsL_law0_r49 : GoodIn lw_tbl wsL_law0_r49 := goodIn_t lw_cTin _ [(3, 210, 1), (3, 212, 1), (0, 26, 1), (3, 213, 1), (3, 222, 4), (3, 235, 1), (7, 171, 4), (5, 231, 1), (7, 175, 1), (7, 177, 1), (0, 111, 1), (7, 178, 2), (7, 181, 1), (0, 112, 1), (7, 182, 2), (7, 185, 1)] rfl (by decide +kernel)
set_option maxRecDepth 20000 in
theorem wsL_in_wsL_law0_r50 : GoodIn lw_tbl wsL_law0_r50 := goodIn_t lw_cTin _ [(0, 113, 1), (7, 186, 1), (3, 239, 1), (4, 0, 3), (7, 187, 4), (4, 3, 9), (4, 19, 1), (7, 191, 4)] rfl (by decide +kernel)
set_option maxRecDepth 20000 in
theorem wsL_in_wsL_law0_r51 : GoodIn lw_tbl wsL_law0_r51 := goodIn_t lw_cTin _ [(4, 31, 5), (4, 37, 1), (0, 29, 1), (4, 38, 5), (1, 108, 1), (1, 85, 1), (1, 94, 1), (1, 113, 1), (1, 118, 1), (4, 43, 2), (4, 48, 1), (4, 61, 1), (7, 195, 3)] rfl (by decide +kernel)
set_option maxRecDepth 20000 in
theorem wsL_in_wsL_law0_r52 : GoodIn lw_tbl wsL_law0_r52 := goodIn_q lw_cTin _ [(7, 198)] rfl (by decide +kernel)
set_option maxRecDepth 20000 in
theorem wsL_in_wsX110 : GoodIn lw_tbl wsX110 := goodIn_q lw_cTin _ [(2, 167), (2, 169), (2, 171), (2, 173), (2, 175), (2, 177), (2, 179), (2, 181), (2, 183), (2, 185), (2, 187), (2, 189), (2, 191), (2, 193), (2, 195), (2, 197)] rfl (by decide +kernel)
set_option maxRecDepth 20000 in
theorem wsL_in_wsX120 : GoodIn lw_tbl wsX120 := goodIn_q lw_cTin _ [(5, 232), (5, 234), (5, 236), (5, 238), (6, 0), (6, 2), (6, 4), (6, 6), (6, 8), (6, 10), (6, 12), (6, 14), (6, 16), (6, 18), (6, 20), (6, 22), (6, 24), (6, 26), (6, 28), (6, 30), (6, 32), (6, 34), (6, 36), (6, 38), (6, 40), (6, 42), (6, 44), (6, 46), (6, 48), (6, 50), (6, 52), (6, 54), (6, 56), (6, 58), (6, 60), (6, 62), (6, 64), (6, 66), (6, 68), (6, 70), (6, 72), (6, 74), (6, 76), (6, 78), (6, 80), (6, 82), (6, 84), (6, 86), (6, 88), (6, 90), (6, 92), (6, 94), (6, 96), (6, 98), (6, 100), (6, 102), (6, 104), (6, 106)] rfl (by decide +kernel)
set_option maxRecDepth 20000 in
theorem wsL_in_wsX50 : GoodIn lw_tbl wsX50 := goodIn_q lw_cTin _ [(1, 178), (1, 180), (1, 182), (1, 184), (1, 186), (1, 188), (1, 190), (1, 192), (1, 194), (1, 196), (1, 198), (1, 200), (1, 202)] rfl (by decide +kernel)
set_option maxRecDepth 20000 in
theorem wsL_in_wsX80 : GoodIn lw_tbl wsX80 := goodIn_q lw_cTin _ [(2, 26), (2, 28), (2, 30), (2, 32), (2, 34), (2, 36), (2, 38), (2, 40), (2, 42), (2, 44), (2, 46), (2, 48), (2, 50)] rfl (by decide +kernel)
