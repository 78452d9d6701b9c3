set_option maxRecDepth 20000 in
theorem wsL_in_wsL_law0_r29 : GoodIn lw_tbl wsL_law0_r29 := goodIn_t lw_cTin _ [(5, 36, 4), (5, 84, 1), (5, 40, 1), (5, 42, 1), (0, 38, 1), (5, 43, 1), (1, 145, 1), (1, 111, 1), (1, 89, 1), (5, 44, 4), (1, 110, 1), (5, 48, 2), (5, 51, 1), (0, 39, 1), (5, 52, 2), (5, 55, 1)] rfl (by decide +kernel)
set_option maxRecDepth 20000 in
theorem wsL_in_wsL_law0_r30 : GoodIn lw_tbl wsL_law0_r30 := goodIn_q lw_cTin _ [(0, 40), (5, 56), (5, 57), (4, 45), (4, 46), (4, 47), (5, 58), (5, 60), (0, 41), (5, 61), (1, 104), (5, 62), (5, 63), (5, 65), (0, 42), (5, 66), (1, 98), (1, 116), (5, 67), (5, 69), (0, 43), (5, 70), (1, 152), (1, 120)] rfl (by decide +kernel)
set_option maxRecDepth 20000 in
theorem wsL_in_wsL_law0_r31 : GoodIn lw_tbl wsL_law0_r31 := goodIn_q lw_cTin _ [(5, 71), (5, 72), (5, 74), (0, 44), (5, 75), (5, 76), (5, 78), (0, 45), (5, 79), (5, 80), (5, 81), (5, 82), (5, 83), (5, 85), (5, 87), (0, 46), (5, 88), (1, 227), (5, 89), (5, 91), (0, 47), (5, 92), (5, 93), (4, 24)] rfl (by decide +kernel)
set_option maxRecDepth 20000 in
theorem wsL_in_wsL_law0_r32 : GoodIn lw_tbl wsL_law0_r32 := goodIn_t lw_cTin _ [(4, 25, 2), (5, 94, 1), (5, 96, 1), (0, 48, 1), (5, 97, 2), (4, 12, 3), (3, 218, 1), (3, 226, 1), (3, 228, 1), (0, 27, 1), (3, 229, 2), (4, 15, 1), (4, 17, 1), (0, 28, 1), (4, 18, 1), (3, 231, 4)] rfl (by decide +kernel)
set_option maxRecDepth 20000 in
theorem wsL_in_wsL_law0_r33 : GoodIn lw_tbl wsL_law0_r33 := goodIn_t lw_cTin _ [(5, 99, 1), (4, 20, 4), (4, 27, 4), (5, 100, 1), (5, 102, 1), (0, 49, 1), (5, 103, 2), (4, 130, 3), (1, 223, 1), (1, 220, 1), (4, 133, 1), (3, 215, 3), (3, 219, 1)] rfl (by decide +kernel)
set_option maxRecDepth 20000 in
theorem wsL_in_wsL_law0_r34 : GoodIn lw_tbl wsL_law0_r34 := goodIn_t lw_cTin _ [(3, 221, 1), (3, 220, 1), (1, 21, 1), (4, 134, 1), (4, 107, 5), (1, 22, 1), (4, 112, 2), (4, 135, 1), (4, 116, 6), (5, 105, 1), (5, 107, 1), (0, 50, 1), (5, 108, 1), (1, 224, 1)] rfl (by decide +kernel)
set_option maxRecDepth 20000 in
theorem wsL_in_wsL_law0_r35 : GoodIn lw_tbl wsL_law0_r35 := goodIn_t lw_cTin _ [(5, 109, 5), (4, 49, 5), (4, 55, 1), (0, 30, 1), (4, 56, 5), (5, 114, 1), (4, 137, 3), (4, 141, 2), (4, 140, 1)] rfl (by decide +kernel)
set_option maxRecDepth 20000 in
theorem wsL_in_wsL_law0_r36 : GoodIn lw_tbl wsL_law0_r36 := goodIn_t lw_cTin _ [(3, 236, 3), (4, 143, 1), (4, 145, 1), (0, 36, 1), (4, 146, 3), (5, 115, 5), (2, 142, 1), (5, 120, 4), (4, 93, 4), (1, 222, 1)] rfl (by decide +kernel)
set_option maxRecDepth 20000 in
theorem wsL_in_wsL_law0_r37 : GoodIn lw_tbl wsL_law0_r37 := goodIn_t lw_cTin _ [(3, 214, 1), (4, 97, 6), (4, 104, 1), (0, 34, 1), (4, 105, 1), (4, 114, 1), (4, 106, 1), (4, 115, 1), (4, 122, 1), (4, 124, 1), (0, 35, 1), (4, 125, 1), (1, 226, 1), (4, 126, 4), (4, 136, 1), (7, 130, 1)] rfl (by decide +kernel)
set_option maxRecDepth 20000 in
theorem wsL_in_wsL_law0_r38 : GoodIn lw_tbl wsL_law0_r38 := goodIn_q lw_cTin _ [(7, 131), (7, 132), (7, 133), (7, 134), (7, 136), (0, 102), (7, 137), (7, 106), (7, 108), (0, 97), (7, 109), (7, 138), (7, 140), (0, 103), (7, 141), (7, 142), (7, 144), (0, 104), (7, 145), (7, 19), (7, 21), (0, 78), (7, 22), (7, 27)] rfl (by decide +kernel)
set_option maxRecDepth 20000 in
theorem wsL_in_wsL_law0_r39 : GoodIn lw_tbl wsL_law0_r39 := goodIn_q lw_cTin _ [(7, 23), (7, 24), (7, 25), (7, 26), (7, 122), (7, 124), (0, 101), (7, 125), (7, 146), (7, 148), (0, 105), (7, 149), (7, 150), (7, 151), (7, 153), (0, 106), (7, 154), (7, 118), (7, 120), (0, 100), (7, 121), (7, 155), (7, 157), (0, 107)] rfl (by decide +kernel)
set_option maxRecDepth 20000 in
theorem wsL_in_wsL_law0_r40 : GoodIn lw_tbl wsL_law0_r40 := goodIn_q lw_cTin _ [(7, 158), (7, 73), (7, 75), (0, 90), (7, 76), (7, 52), (7, 57), (7, 59), (0, 86), (7, 60), (7, 114), (7, 116), (0, 99), (7, 117), (7, 90), (7, 92), (0, 94), (7, 93), (7, 44), (7, 46), (0, 83), (7, 47), (7, 159), (7, 161)] rfl (by decide +kernel)
set_option maxRecDepth 20000 in
theorem wsL_in_wsL_law0_r41 : GoodIn lw_tbl wsL_law0_r41 := goodIn_q lw_cTin _ [(0, 108), (7, 162), (7, 36), (7, 38), (0, 81), (7, 39), (7, 163), (7, 165), (0, 109), (7, 166), (7, 81), (7, 83), (0, 92), (7, 84), (7, 85), (7, 87), (0, 93), (7, 88), (7, 89), (7, 94), (7, 96), (0, 95), (7, 97), (7, 61)] rfl (by decide +kernel)
set_option maxRecDepth 20000 in
theorem wsL_in_wsL_law0_r42 : GoodIn lw_tbl wsL_law0_r42 := goodIn_q lw_cTin _ [(7, 63), (0, 87), (7, 64), (7, 65), (7, 67), (0, 88), (7, 68), (7, 40), (7, 42), (0, 82), (7, 43), (7, 48), (7, 50), (0, 84), (7, 51), (7, 53), (7, 55), (0, 85), (7, 56), (7, 32), (7, 34), (0, 80), (7, 35), (7, 167)] rfl (by decide +kernel)
