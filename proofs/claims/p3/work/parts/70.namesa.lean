set_option maxRecDepth 20000 in
theorem wsL_in_wsL_law0_r1 : GoodIn lw_tbl wsL_law0_r1 := goodIn_p wsL_law0_r1 [141, 144] (by decide +kernel) (by decide +kernel)
set_option maxRecDepth 20000 in
theorem wsL_in_wsL_law0_r2 : GoodIn lw_tbl wsL_law0_r2 := goodIn_p wsL_law0_r2 [] (by decide +kernel) (by decide +kernel)
set_option maxRecDepth 20000 in
theorem wsL_in_wsL_law0_r3 : GoodIn lw_tbl wsL_law0_r3 := goodIn_p wsL_law0_r3 [149] (by decide +kernel) (by decide +kernel)
set_option maxRecDepth 20000 in
theorem wsL_in_wsL_law0_r4 : GoodIn lw_tbl wsL_law0_r4 := goodIn_p wsL_law0_r4 [155, 186] (by decide +kernel) (by decide +kernel)
set_option maxRecDepth 20000 in
theorem wsL_in_wsL_law0_r5 : GoodIn lw_tbl wsL_law0_r5 := goodIn_p wsL_law0_r5 [195, 324] (by decide +kernel) (by decide +kernel)
set_option maxRecDepth 20000 in
theorem wsL_in_wsL_law0_r6 : GoodIn lw_tbl wsL_law0_r6 := goodIn_p wsL_law0_r6 [331, 353] (by decide +kernel) (by decide +kernel)
set_option maxRecDepth 20000 in
theorem wsL_in_wsL_law0_r7 : GoodIn lw_tbl wsL_law0_r7 := goodIn_p wsL_law0_r7 [416, 442] (by decide +kernel) (by decide +kernel)
set_option maxRecDepth 20000 in
theorem wsL_in_wsL_law0_r8 : GoodIn lw_tbl wsL_law0_r8 := goodIn_p wsL_law0_r8 [475, 490, 1245] (by decide +kernel) (by decide +kernel)
set_option maxRecDepth 20000 in
theorem wsL_in_wsL_law0_r9 : GoodIn lw_tbl wsL_law0_r9 := goodIn_p wsL_law0_r9 [] (by decide +kernel) (by decide +kernel)
set_option maxRecDepth 20000 in
theorem wsL_in_wsL_law0_r10 : GoodIn lw_tbl wsL_law0_r10 := goodIn_p wsL_law0_r10 [557] (by decide +kernel) (by decide +kernel)
set_option maxRecDepth 20000 in
theorem wsL_in_wsL_law0_r11 : GoodIn lw_tbl wsL_law0_r11 := goodIn_p wsL_law0_r11 [561, 564, 1426, 568] (by decide +kernel) (by decide +kernel)
set_option maxRecDepth 20000 in
theorem wsL_in_wsL_law0_r12 : GoodIn lw_tbl wsL_law0_r12 := goodIn_p wsL_law0_r12 [572, 576, 580, 584, 588, 591] (by decide +kernel) (by decide +kernel)
set_option maxRecDepth 20000 in
theorem wsL_in_wsL_law0_r13 : GoodIn lw_tbl wsL_law0_r13 := goodIn_p wsL_law0_r13 [595, 599, 603, 607, 611] (by decide +kernel) (by decide +kernel)
set_option maxRecDepth 20000 in
theorem wsL_in_wsL_law0_r14 : GoodIn lw_tbl wsL_law0_r14 := goodIn_p wsL_law0_r14 [615, 620, 624, 628, 645, 633] (by decide +kernel) (by decide +kernel)
