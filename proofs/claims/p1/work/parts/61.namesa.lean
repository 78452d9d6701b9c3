set_option maxRecDepth 20000 in
theorem wsL_in_wsL_law0_r1 : GoodIn lw_tbl wsL_law0_r1 := goodIn_p wsL_law0_r1 [141, 144] (by decide +kernel) (by decide +kernel)
set_option maxRecDepth 20000 in
theorem wsL_in_wsL_law0_r2 : GoodIn lw_tbl wsL_law0_r2 := goodIn_p wsL_law0_r2 [] (by decide +kernel) (by decide +kernel)
set_option maxRecDepth 20000 in
theorem wsL_in_wsL_law0_r3 : GoodIn lw_tbl wsL_law0_r3 := goodIn_p wsL_law0_r3 [149, 180] (by decide +kernel) (by decide +kernel)
set_option maxRecDepth 20000 in
theorem wsL_in_wsL_law0_r4 : GoodIn lw_tbl wsL_law0_r4 := goodIn_p wsL_law0_r4 [187] (by decide +kernel) (by decide +kernel)
set_option maxRecDepth 20000 in
theorem wsL_in_wsL_law0_r5 : GoodIn lw_tbl wsL_law0_r5 := goodIn_p wsL_law0_r5 [211, 274, 301] (by decide +kernel) (by decide +kernel)
set_option maxRecDepth 20000 in
theorem wsL_in_wsL_law0_r6 : GoodIn lw_tbl wsL_law0_r6 := goodIn_p wsL_law0_r6 [333] (by decide +kernel) (by decide +kernel)
set_option maxRecDepth 20000 in
theorem wsL_in_wsL_law0_r7 : GoodIn lw_tbl wsL_law0_r7 := goodIn_p wsL_law0_r7 [342, 426] (by decide +kernel) (by decide +kernel)
set_option maxRecDepth 20000 in
theorem wsL_in_wsL_law0_r8 : GoodIn lw_tbl wsL_law0_r8 := goodIn_p wsL_law0_r8 [472, 487, 1243] (by decide +kernel) (by decide +kernel)
set_option maxRecDepth 20000 in
theorem wsL_in_wsL_law0_r9 : GoodIn lw_tbl wsL_law0_r9 := goodIn_p wsL_law0_r9 [] (by decide +kernel) (by decide +kernel)
set_option maxRecDepth 20000 in
theorem wsL_in_wsL_law0_r10 : GoodIn lw_tbl wsL_law0_r10 := goodIn_p wsL_law0_r10 [] (by decide +kernel) (by decide +kernel)
set_option maxRecDepth 20000 in
theorem wsL_in_wsL_law0_r11 : GoodIn lw_tbl wsL_law0_r11 := goodIn_p wsL_law0_r11 [560, 564, 567, 1428, 571] (by decide +kernel) (by decide +kernel)
set_option maxRecDepth 20000 in
theorem wsL_in_wsL_law0_r12 : GoodIn lw_tbl wsL_law0_r12 := goodIn_p wsL_law0_r12 [575, 579, 583, 587, 591, 594] (by decide +kernel) (by decide +kernel)
set_option maxRecDepth 20000 in
theorem wsL_in_wsL_law0_r13 : GoodIn lw_tbl wsL_law0_r13 := goodIn_p wsL_law0_r13 [598, 602, 606, 610, 614] (by decide +kernel) (by decide +kernel)
set_option maxRecDepth 20000 in
theorem wsL_in_wsL_law0_r14 : GoodIn lw_tbl wsL_law0_r14 := goodIn_p wsL_law0_r14 [618, 623, 627, 631, 648, 645] (by decide +kernel) (by decide +kernel)
