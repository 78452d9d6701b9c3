set_option maxRecDepth 20000 in
theorem wsL_in_wsL_law0_r1 : GoodIn lw_tbl wsL_law0_r1 := goodIn_t lw_cTin _ [(1, 23, 2), (1, 1, 1), (5, 167, 2), (1, 13, 1), (7, 199, 1), (1, 25, 8), (1, 2, 1), (2, 151, 1), (1, 67, 1), (2, 152, 2), (1, 206, 2), (1, 6, 1), (2, 154, 1)] rfl (by decide +kernel)
set_option maxRecDepth 20000 in
theorem wsL_in_wsL_law0_r2 : GoodIn lw_tbl wsL_law0_r2 := goodIn_q lw_cTin _ [(2, 53), (2, 155), (2, 55), (2, 156), (2, 157), (2, 57), (2, 158), (2, 59), (1, 9), (2, 159), (2, 83), (2, 160), (2, 85), (1, 10), (2, 161), (2, 114), (1, 214), (1, 7), (2, 162), (2, 163), (2, 116), (1, 69), (1, 4), (2, 164)] rfl (by decide +kernel)
set_option maxRecDepth 20000 in
theorem wsL_in_wsL_law0_r3 : GoodIn lw_tbl wsL_law0_r3 := goodIn_t lw_cTin _ [(2, 165, 2), (2, 118, 1), (1, 11, 1), (2, 133, 1), (1, 12, 1), (1, 34, 3), (1, 163, 1), (1, 165, 1), (1, 37, 2), (1, 3, 1), (1, 166, 1), (1, 68, 1), (1, 168, 1), (1, 205, 1), (1, 169, 5), (1, 139, 1)] rfl (by decide +kernel)
set_option maxRecDepth 20000 in
theorem wsL_in_wsL_law0_r4 : GoodIn lw_tbl wsL_law0_r4 := goodIn_t lw_cTin _ [(1, 174, 2), (1, 138, 1), (1, 176, 2), (1, 40, 5), (1, 47, 1), (1, 49, 1), (1, 51, 1), (1, 53, 1), (1, 70, 4), (1, 140, 1), (1, 74, 1), (1, 143, 1), (1, 148, 1), (1, 76, 1), (1, 151, 1)] rfl (by decide +kernel)
set_option maxRecDepth 20000 in
theorem wsL_in_wsL_law0_r5 : GoodIn lw_tbl wsL_law0_r5 := goodIn_t lw_cTin _ [(1, 78, 1), (1, 5, 1), (1, 80, 4), (1, 91, 1), (1, 93, 1), (1, 100, 1), (1, 102, 1), (1, 107, 1), (1, 112, 1), (1, 117, 1), (1, 208, 5), (2, 13, 6)] rfl (by decide +kernel)
set_option maxRecDepth 20000 in
theorem wsL_in_wsL_law0_r6 : GoodIn lw_tbl wsL_law0_r6 := goodIn_t lw_cTin _ [(2, 19, 6), (1, 235, 2), (1, 8, 1), (2, 25, 1), (1, 215, 4), (1, 221, 1), (1, 225, 1), (1, 219, 1), (1, 238, 2), (2, 0, 2), (2, 3, 3)] rfl (by decide +kernel)
set_option maxRecDepth 20000 in
theorem wsL_in_wsL_law0_r7 : GoodIn lw_tbl wsL_law0_r7 := goodIn_t lw_cTin _ [(2, 2, 1), (2, 60, 4), (2, 66, 1), (2, 68, 1), (2, 64, 1), (2, 69, 3), (2, 65, 1), (2, 87, 4), (2, 94, 3), (2, 98, 2), (2, 92, 1), (2, 100, 1), (2, 91, 1)] rfl (by decide +kernel)
set_option maxRecDepth 20000 in
theorem wsL_in_wsL_law0_r8 : GoodIn lw_tbl wsL_law0_r8 := goodIn_t lw_cTin _ [(2, 115, 1), (2, 117, 1), (2, 119, 7), (2, 134, 5), (2, 140, 1), (2, 145, 1), (2, 139, 1), (5, 169, 7)] rfl (by decide +kernel)
set_option maxRecDepth 20000 in
theorem wsL_in_wsL_law0_r9 : GoodIn lw_tbl wsL_law0_r9 := goodIn_t lw_cTin _ [(5, 176, 1), (4, 230, 1), (5, 178, 1), (5, 180, 4), (5, 185, 1), (5, 187, 16)] rfl (by decide +kernel)
set_option maxRecDepth 20000 in
theorem wsL_in_wsL_law0_r10 : GoodIn lw_tbl wsL_law0_r10 := goodIn_t lw_cTin _ [(5, 203, 3), (5, 207, 1), (5, 211, 8), (5, 223, 8), (2, 200, 4)] rfl (by decide +kernel)
set_option maxRecDepth 20000 in
theorem wsL_in_wsL_law0_r11 : GoodIn lw_tbl wsL_law0_r11 := goodIn_t lw_cTin _ [(1, 167, 1), (1, 45, 1), (2, 204, 7), (6, 109, 4), (5, 177, 1), (5, 179, 1), (6, 113, 3), (2, 211, 4), (1, 164, 1), (2, 215, 1)] rfl (by decide +kernel)
set_option maxRecDepth 20000 in
theorem wsL_in_wsL_law0_r12 : GoodIn lw_tbl wsL_law0_r12 := goodIn_t lw_cTin _ [(2, 216, 3), (1, 50, 1), (2, 219, 4), (1, 84, 1), (2, 223, 9), (2, 233, 1), (0, 0, 1), (2, 234, 4)] rfl (by decide +kernel)
set_option maxRecDepth 20000 in
theorem wsL_in_wsL_law0_r13 : GoodIn lw_tbl wsL_law0_r13 := goodIn_q lw_cTin _ [(2, 238), (3, 0), (0, 1), (3, 1), (1, 48), (3, 2), (3, 4), (0, 2), (3, 5), (3, 6), (3, 8), (0, 3), (3, 9), (3, 10), (3, 12), (0, 4), (3, 13), (3, 14), (3, 16), (0, 5), (3, 17), (3, 18), (3, 20), (0, 6)] rfl (by decide +kernel)
set_option maxRecDepth 20000 in
theorem wsL_in_wsL_law0_r14 : GoodIn lw_tbl wsL_law0_r14 := goodIn_q lw_cTin _ [(3, 21), (3, 22), (3, 23), (3, 25), (0, 7), (3, 26), (3, 27), (3, 29), (0, 8), (3, 30), (1, 142), (3, 31), (3, 33), (0, 9), (3, 34), (3, 35), (3, 49), (3, 50), (1, 14), (3, 51), (3, 36), (3, 38), (0, 10), (3, 39)] rfl (by decide +kernel)
