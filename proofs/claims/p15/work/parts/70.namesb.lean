set_option maxRecDepth 20000 in
theorem wsL_in_wsL_law0_r15 : GoodIn lw_tbl wsL_law0_r15 := goodIn_q lw_cTin _ [(1, 52), (3, 41), (3, 42), (3, 43), (3, 44), (3, 45), (3, 47), (3, 48), (3, 52), (3, 54), (0, 11), (3, 65), (3, 67), (0, 13), (3, 68), (1, 147), (3, 69), (3, 71), (0, 14), (3, 72), (1, 90), (1, 106), (3, 73), (3, 74)] rfl (by decide +kernel)
set_option maxRecDepth 20000 in
theorem wsL_in_wsL_law0_r16 : GoodIn lw_tbl wsL_law0_r16 := goodIn_t lw_cTin _ [(3, 75, 14), (3, 90, 1), (0, 15, 1), (3, 91, 1), (1, 99, 1), (3, 55, 1), (3, 57, 5)] rfl (by decide +kernel)
set_option maxRecDepth 20000 in
theorem wsL_in_wsL_law0_r17 : GoodIn lw_tbl wsL_law0_r17 := goodIn_t lw_cTin _ [(3, 63, 1), (0, 12, 1), (3, 64, 1), (3, 92, 1), (3, 94, 1), (0, 16, 1), (3, 95, 1), (1, 46, 1), (3, 96, 5), (3, 102, 1), (0, 17, 1), (3, 103, 1), (1, 150, 1), (3, 104, 7)] rfl (by decide +kernel)
set_option maxRecDepth 20000 in
theorem wsL_in_wsL_law0_r18 : GoodIn lw_tbl wsL_law0_r18 := goodIn_t lw_cTin _ [(3, 111, 5), (3, 117, 1), (0, 18, 1), (3, 118, 2), (1, 153, 1), (3, 120, 6), (3, 127, 1), (0, 19, 1), (3, 128, 1), (2, 97, 1), (3, 129, 4)] rfl (by decide +kernel)
set_option maxRecDepth 20000 in
theorem wsL_in_wsL_law0_r19 : GoodIn lw_tbl wsL_law0_r19 := goodIn_t lw_cTin _ [(6, 116, 4), (5, 210, 1), (5, 209, 1), (5, 206, 1), (5, 208, 1), (6, 120, 1), (6, 122, 1), (0, 54, 1), (6, 123, 1), (5, 184, 1), (6, 124, 7), (6, 132, 1), (0, 55, 1), (6, 133, 1), (5, 186, 1)] rfl (by decide +kernel)
set_option maxRecDepth 20000 in
theorem wsL_in_wsL_law0_r20 : GoodIn lw_tbl wsL_law0_r20 := goodIn_q lw_cTin _ [(6, 134), (6, 136), (0, 56), (6, 137), (6, 138), (6, 140), (0, 57), (6, 141), (6, 142), (6, 144), (0, 58), (6, 145), (6, 146), (6, 148), (0, 59), (6, 149), (5, 219), (5, 220), (6, 150), (6, 152), (0, 60), (6, 153), (6, 165), (6, 154)] rfl (by decide +kernel)
set_option maxRecDepth 20000 in
theorem wsL_in_wsL_law0_r21 : GoodIn lw_tbl wsL_law0_r21 := goodIn_q lw_cTin _ [(6, 156), (0, 61), (6, 157), (6, 158), (6, 160), (0, 62), (6, 161), (6, 162), (6, 163), (6, 164), (6, 166), (6, 168), (0, 63), (6, 169), (5, 221), (5, 222), (6, 170), (6, 172), (0, 64), (6, 173), (6, 174), (6, 176), (0, 65), (6, 177)] rfl (by decide +kernel)
set_option maxRecDepth 20000 in
theorem wsL_in_wsL_law0_r22 : GoodIn lw_tbl wsL_law0_r22 := goodIn_q lw_cTin _ [(6, 178), (6, 180), (0, 66), (6, 181), (6, 182), (6, 184), (0, 67), (6, 185), (6, 186), (6, 188), (0, 68), (6, 189), (6, 190), (6, 192), (0, 69), (6, 193), (6, 198), (6, 194), (6, 196), (0, 70), (6, 197), (3, 133), (3, 134), (3, 135)] rfl (by decide +kernel)
set_option maxRecDepth 20000 in
theorem wsL_in_wsL_law0_r23 : GoodIn lw_tbl wsL_law0_r23 := goodIn_t lw_cTin _ [(3, 136, 1), (6, 199, 4), (3, 137, 4), (1, 141, 1), (6, 203, 4), (3, 141, 4), (1, 88, 1), (3, 145, 1), (3, 147, 1), (0, 20, 1), (3, 148, 2)] rfl (by decide +kernel)
set_option maxRecDepth 20000 in
theorem wsL_in_wsL_law0_r24 : GoodIn lw_tbl wsL_law0_r24 := goodIn_t lw_cTin _ [(3, 150, 3), (3, 154, 1), (0, 21, 1), (3, 155, 1), (1, 146, 1), (6, 207, 5), (6, 213, 1), (0, 71, 1), (6, 214, 2), (6, 217, 1), (0, 72, 1), (6, 218, 1), (3, 156, 4), (1, 97, 1)] rfl (by decide +kernel)
set_option maxRecDepth 20000 in
theorem wsL_in_wsL_law0_r25 : GoodIn lw_tbl wsL_law0_r25 := goodIn_t lw_cTin _ [(1, 92, 1), (1, 101, 1), (3, 160, 4), (6, 219, 5), (6, 225, 1), (0, 73, 1), (6, 226, 1), (3, 164, 5), (6, 227, 4), (4, 149, 1)] rfl (by decide +kernel)
set_option maxRecDepth 20000 in
theorem wsL_in_wsL_law0_r26 : GoodIn lw_tbl wsL_law0_r26 := goodIn_t lw_cTin _ [(4, 150, 1), (1, 0, 1), (4, 151, 7), (4, 163, 1), (1, 18, 1), (4, 231, 1), (1, 19, 1), (4, 158, 5), (5, 7, 4), (6, 231, 2)] rfl (by decide +kernel)
set_option maxRecDepth 20000 in
theorem wsL_in_wsL_law0_r27 : GoodIn lw_tbl wsL_law0_r27 := goodIn_t lw_cTin _ [(6, 233, 3), (6, 237, 1), (0, 74, 1), (6, 238, 1), (3, 169, 5), (3, 175, 1), (0, 22, 1), (3, 176, 5), (1, 86, 1), (1, 95, 1), (3, 181, 1), (3, 183, 1), (0, 23, 1), (3, 184, 1)] rfl (by decide +kernel)
set_option maxRecDepth 20000 in
theorem wsL_in_wsL_law0_r28 : GoodIn lw_tbl wsL_law0_r28 := goodIn_t lw_cTin _ [(3, 186, 1), (3, 188, 1), (0, 24, 1), (3, 189, 1), (6, 239, 1), (7, 0, 4), (7, 5, 1), (0, 75, 1), (7, 6, 1), (5, 12, 9), (1, 20, 1), (2, 144, 1), (1, 149, 1)] rfl (by decide +kernel)
