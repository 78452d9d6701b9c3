set_option maxRecDepth 20000 in
theorem wsL_in_wsL_law0_r1 : GoodIn lw_tbl wsL_law0_r1 := goodIn_q lw_cTin _ [(1, 23), (1, 24), (1, 1), (5, 167), (5, 168), (1, 13), (7, 199), (1, 25), (1, 26), (1, 27), (1, 28), (1, 29), (1, 30), (1, 31), (1, 32), (1, 2), (2, 151), (1, 67), (2, 152), (2, 153), (1, 206), (1, 207), (1, 6), (2, 154)] rfl (by decide +kernel)
set_option maxRecDepth 20000 in
theorem wsL_in_wsL_law0_r2 : GoodIn lw_tbl wsL_law0_r2 := goodIn_q lw_cTin _ [(2, 53), (2, 155), (2, 55), (2, 156), (2, 157), (2, 57), (2, 158), (2, 59), (1, 9), (2, 159), (2, 83), (2, 160), (2, 85), (1, 10), (2, 161), (2, 114), (1, 214), (1, 7), (2, 162), (2, 163), (2, 116), (1, 69), (1, 4), (2, 164)] rfl (by decide +kernel)
set_option maxRecDepth 20000 in
theorem wsL_in_wsL_law0_r3 : GoodIn lw_tbl wsL_law0_r3 := goodIn_q lw_cTin _ [(2, 165), (2, 166), (2, 118), (1, 11), (2, 133), (1, 12), (1, 34), (1, 35), (1, 36), (1, 163), (1, 165), (1, 37), (1, 38), (1, 3), (1, 166), (1, 68), (1, 168), (1, 205), (1, 169), (1, 170), (1, 171), (1, 172), (1, 173), (1, 139)] rfl (by decide +kernel)
set_option maxRecDepth 20000 in
theorem wsL_in_wsL_law0_r4 : GoodIn lw_tbl wsL_law0_r4 := goodIn_q lw_cTin _ [(1, 174), (1, 175), (1, 138), (1, 176), (1, 177), (1, 40), (1, 41), (1, 42), (1, 43), (1, 44), (1, 47), (1, 49), (1, 51), (1, 53), (1, 70), (1, 71), (1, 72), (1, 73), (1, 140), (1, 74), (1, 143), (1, 148), (1, 76), (1, 151)] rfl (by decide +kernel)
set_option maxRecDepth 20000 in
theorem wsL_in_wsL_law0_r5 : GoodIn lw_tbl wsL_law0_r5 := goodIn_q lw_cTin _ [(1, 78), (1, 5), (1, 80), (1, 81), (1, 82), (1, 83), (1, 91), (1, 93), (1, 100), (1, 102), (1, 107), (1, 112), (1, 117), (1, 208), (1, 209), (1, 210), (1, 211), (1, 212), (2, 13), (2, 14), (2, 15), (2, 16), (2, 17), (2, 18)] rfl (by decide +kernel)
set_option maxRecDepth 20000 in
theorem wsL_in_wsL_law0_r6 : GoodIn lw_tbl wsL_law0_r6 := goodIn_q lw_cTin _ [(2, 19), (2, 20), (2, 21), (2, 22), (2, 23), (2, 24), (1, 235), (1, 236), (1, 8), (2, 25), (1, 215), (1, 216), (1, 217), (1, 218), (1, 221), (1, 225), (1, 219), (1, 238), (1, 239), (2, 0), (2, 1), (2, 3), (2, 4), (2, 5)] rfl (by decide +kernel)
set_option maxRecDepth 20000 in
theorem wsL_in_wsL_law0_r7 : GoodIn lw_tbl wsL_law0_r7 := goodIn_q lw_cTin _ [(2, 2), (2, 60), (2, 61), (2, 62), (2, 63), (2, 66), (2, 68), (2, 64), (2, 69), (2, 70), (2, 71), (2, 65), (2, 87), (2, 88), (2, 89), (2, 90), (2, 94), (2, 95), (2, 96), (2, 98), (2, 99), (2, 92), (2, 100), (2, 91)] rfl (by decide +kernel)
set_option maxRecDepth 20000 in
theorem wsL_in_wsL_law0_r8 : GoodIn lw_tbl wsL_law0_r8 := goodIn_q lw_cTin _ [(2, 115), (2, 117), (2, 119), (2, 120), (2, 121), (2, 122), (2, 123), (2, 124), (2, 125), (2, 134), (2, 135), (2, 136), (2, 137), (2, 138), (2, 140), (2, 145), (2, 139), (5, 169), (5, 170), (5, 171), (5, 172), (5, 173), (5, 174), (5, 175)] rfl (by decide +kernel)
set_option maxRecDepth 20000 in
theorem wsL_in_wsL_law0_r9 : GoodIn lw_tbl wsL_law0_r9 := goodIn_q lw_cTin _ [(5, 176), (4, 230), (5, 178), (5, 180), (5, 181), (5, 182), (5, 183), (5, 185), (5, 187), (5, 188), (5, 189), (5, 190), (5, 191), (5, 192), (5, 193), (5, 194), (5, 195), (5, 196), (5, 197), (5, 198), (5, 199), (5, 200), (5, 201), (5, 202)] rfl (by decide +kernel)
set_option maxRecDepth 20000 in
theorem wsL_in_wsL_law0_r10 : GoodIn lw_tbl wsL_law0_r10 := goodIn_q lw_cTin _ [(5, 203), (5, 204), (5, 205), (5, 207), (5, 211), (5, 212), (5, 213), (5, 214), (5, 215), (5, 216), (5, 217), (5, 218), (5, 223), (5, 224), (5, 225), (5, 226), (5, 227), (5, 228), (5, 229), (5, 230), (2, 200), (2, 201), (2, 202), (2, 203)] rfl (by decide +kernel)
set_option maxRecDepth 20000 in
theorem wsL_in_wsL_law0_r11 : GoodIn lw_tbl wsL_law0_r11 := goodIn_q lw_cTin _ [(1, 167), (1, 45), (2, 204), (2, 205), (2, 206), (2, 207), (2, 208), (2, 209), (2, 210), (6, 109), (6, 110), (6, 111), (6, 112), (5, 177), (5, 179), (6, 113), (6, 114), (6, 115), (2, 211), (2, 212), (2, 213), (2, 214), (1, 164), (2, 215)] rfl (by decide +kernel)
set_option maxRecDepth 20000 in
theorem wsL_in_wsL_law0_r12 : GoodIn lw_tbl wsL_law0_r12 := goodIn_q lw_cTin _ [(2, 216), (2, 217), (2, 218), (1, 50), (2, 219), (2, 220), (2, 221), (2, 222), (1, 84), (2, 223), (2, 224), (2, 225), (2, 226), (2, 227), (2, 228), (2, 229), (2, 230), (2, 231), (2, 233), (0, 0), (2, 234), (2, 235), (2, 236), (2, 237)] rfl (by decide +kernel)
set_option maxRecDepth 20000 in
theorem wsL_in_wsL_law0_r13 : GoodIn lw_tbl wsL_law0_r13 := goodIn_q lw_cTin _ [(2, 238), (3, 0), (0, 1), (3, 1), (1, 48), (3, 2), (3, 4), (0, 2), (3, 5), (3, 6), (3, 8), (0, 3), (3, 9), (3, 10), (3, 12), (0, 4), (3, 13), (3, 14), (3, 16), (0, 5), (3, 17), (3, 18), (3, 20), (0, 6)] rfl (by decide +kernel)
set_option maxRecDepth 20000 in
theorem wsL_in_wsL_law0_r14 : GoodIn lw_tbl wsL_law0_r14 := goodIn_q lw_cTin _ [(3, 21), (3, 22), (3, 23), (3, 25), (0, 7), (3, 26), (3, 27), (3, 29), (0, 8), (3, 30), (1, 142), (3, 31), (3, 33), (0, 9), (3, 34), (3, 35), (3, 49), (3, 50), (1, 14), (3, 51), (3, 36), (3, 38), (0, 10), (3, 39)] rfl (by decide +kernel)
