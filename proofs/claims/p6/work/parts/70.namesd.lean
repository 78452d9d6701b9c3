set_option maxRecDepth 20000 in
theorem wsL_in_wsL_law0_r43 : GoodIn lw_tbl wsL_law0_r43 := goodIn_q lw_cTin _ [(7, 169), (0, 110), (7, 170), (7, 28), (7, 30), (0, 79), (7, 31), (5, 124), (5, 125), (5, 126), (5, 127), (5, 128), (5, 129), (5, 130), (5, 132), (5, 134), (0, 51), (5, 135), (5, 136), (5, 137), (5, 138), (5, 139), (2, 143), (1, 115)] rfl (by decide +kernel)
set_option maxRecDepth 20000 in
theorem wsL_in_wsL_law0_r44 : GoodIn lw_tbl wsL_law0_r44 := goodIn_q lw_cTin _ [(5, 140), (5, 142), (0, 52), (5, 143), (5, 144), (5, 146), (0, 53), (5, 147), (1, 105), (5, 148), (5, 149), (5, 150), (5, 151), (5, 152), (5, 153), (5, 154), (5, 155), (5, 156), (1, 144), (1, 109), (2, 141), (4, 66), (4, 68), (0, 31)] rfl (by decide +kernel)
set_option maxRecDepth 20000 in
theorem wsL_in_wsL_law0_r45 : GoodIn lw_tbl wsL_law0_r45 := goodIn_q lw_cTin _ [(4, 69), (3, 196), (3, 197), (4, 71), (4, 72), (4, 73), (4, 74), (4, 75), (4, 76), (4, 77), (5, 157), (7, 7), (7, 8), (7, 9), (7, 10), (7, 11), (7, 13), (0, 76), (7, 14), (7, 15), (7, 17), (0, 77), (7, 18), (7, 69)] rfl (by decide +kernel)
set_option maxRecDepth 20000 in
theorem wsL_in_wsL_law0_r46 : GoodIn lw_tbl wsL_law0_r46 := goodIn_q lw_cTin _ [(7, 71), (0, 89), (7, 72), (7, 77), (7, 79), (0, 91), (7, 80), (7, 98), (7, 100), (0, 96), (7, 101), (5, 158), (5, 159), (5, 160), (5, 161), (5, 162), (5, 163), (5, 164), (3, 195), (4, 62), (4, 63), (4, 64), (4, 65), (1, 87)] rfl (by decide +kernel)
set_option maxRecDepth 20000 in
theorem wsL_in_wsL_law0_r47 : GoodIn lw_tbl wsL_law0_r47 := goodIn_q lw_cTin _ [(1, 119), (1, 114), (4, 78), (4, 80), (0, 32), (4, 81), (1, 96), (4, 82), (4, 83), (4, 85), (0, 33), (4, 86), (1, 103), (4, 87), (4, 88), (4, 89), (4, 90), (4, 91), (4, 92), (7, 102), (7, 103), (7, 104), (7, 105), (7, 110)] rfl (by decide +kernel)
set_option maxRecDepth 20000 in
theorem wsL_in_wsL_law0_r48 : GoodIn lw_tbl wsL_law0_r48 := goodIn_q lw_cTin _ [(7, 112), (0, 98), (7, 113), (3, 191), (3, 192), (3, 193), (3, 194), (2, 67), (7, 126), (7, 127), (7, 128), (7, 129), (3, 198), (3, 199), (3, 200), (3, 201), (3, 202), (3, 204), (0, 25), (3, 205), (3, 206), (3, 207), (3, 208), (3, 209)] rfl (by decide +kernel)
set_option maxRecDepth 20000 in
theorem wsL_in_wsL_law0_r49 : GoodIn lw_tbl wsL_law0_r49 := goodIn_q lw_cTin _ [(3, 210), (3, 212), (0, 26), (3, 213), (3, 222), (3, 223), (3, 224), (3, 225), (3, 235), (7, 171), (7, 172), (7, 173), (7, 174), (5, 231), (7, 175), (7, 177), (0, 111), (7, 178), (7, 179), (7, 181), (0, 112), (7, 182), (7, 183), (7, 185)] rfl (by decide +kernel)
set_option maxRecDepth 20000 in
theorem wsL_in_wsL_law0_r50 : GoodIn lw_tbl wsL_law0_r50 := goodIn_q lw_cTin _ [(0, 113), (7, 186), (3, 239), (4, 0), (4, 1), (4, 2), (7, 187), (7, 188), (7, 189), (7, 190), (4, 3), (4, 4), (4, 5), (4, 6), (4, 7), (4, 8), (4, 9), (4, 10), (4, 11), (4, 19), (7, 191), (7, 192), (7, 193), (7, 194)] rfl (by decide +kernel)
set_option maxRecDepth 20000 in
theorem wsL_in_wsL_law0_r51 : GoodIn lw_tbl wsL_law0_r51 := goodIn_q lw_cTin _ [(4, 31), (4, 32), (4, 33), (4, 34), (4, 35), (4, 37), (0, 29), (4, 38), (4, 39), (4, 40), (4, 41), (4, 42), (1, 108), (1, 85), (1, 94), (1, 113), (1, 118), (4, 43), (4, 44), (4, 48), (4, 61), (7, 195), (7, 196), (7, 197)] rfl (by decide +kernel)
set_option maxRecDepth 20000 in
theorem wsL_in_wsL_law0_r52 : GoodIn lw_tbl wsL_law0_r52 := goodIn_q lw_cTin _ [(7, 198)] rfl (by decide +kernel)
theorem wsL_in_wsX110 : GoodIn lw_tbl wsX110 := goodIn_of _ (by decide +kernel)
theorem wsL_in_wsX120 : GoodIn lw_tbl wsX120 := goodIn_of _ (by decide +kernel)
theorem wsL_in_wsX50 : GoodIn lw_tbl wsX50 := goodIn_of _ (by decide +kernel)
theorem wsL_in_wsX80 : GoodIn lw_tbl wsX80 := goodIn_of _ (by decide +kernel)
