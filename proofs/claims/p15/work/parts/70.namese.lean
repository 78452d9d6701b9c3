set_option maxRecDepth 20000 in
theorem wsL_in_wsX60 : GoodIn lw_tbl wsX60 := goodIn_q lw_cTin _ [(2, 72), (2, 74), (2, 76), (2, 78), (2, 80)] rfl (by decide +kernel)
set_option maxRecDepth 20000 in
theorem wsL_in_wsX40 : GoodIn lw_tbl wsX40 := goodIn_q lw_cTin _ [(2, 101), (2, 103), (2, 105), (2, 107), (2, 109), (2, 111)] rfl (by decide +kernel)
set_option maxRecDepth 20000 in
theorem wsL_in_wsX00 : GoodIn lw_tbl wsX00 := goodIn_q lw_cTin _ [(1, 228), (1, 230), (1, 232)] rfl (by decide +kernel)
set_option maxRecDepth 20000 in
theorem wsL_in_wsX20 : GoodIn lw_tbl wsX20 := goodIn_q lw_cTin _ [(1, 154), (1, 156), (1, 158), (1, 160)] rfl (by decide +kernel)
set_option maxRecDepth 20000 in
theorem wsL_in_wsX90 : GoodIn lw_tbl wsX90 := goodIn_q lw_cTin _ [(2, 126), (2, 128), (2, 130)] rfl (by decide +kernel)
set_option maxRecDepth 20000 in
theorem wsL_in_wsX30 : GoodIn lw_tbl wsX30 := goodIn_q lw_cTin _ [(2, 146), (2, 148)] rfl (by decide +kernel)
set_option maxRecDepth 20000 in
theorem wsL_in_wsX100 : GoodIn lw_tbl wsX100 := goodIn_q lw_cTin _ [(1, 54), (1, 56), (1, 58), (1, 60), (1, 62), (1, 64)] rfl (by decide +kernel)
set_option maxRecDepth 20000 in
theorem wsL_in_wsX70 : GoodIn lw_tbl wsX70 := goodIn_q lw_cTin _ [(1, 121), (1, 123), (1, 125), (1, 127), (1, 129), (1, 131), (1, 133), (1, 135)] rfl (by decide +kernel)
set_option maxRecDepth 20000 in
theorem wsL_in_wsX10 : GoodIn lw_tbl wsX10 := goodIn_q lw_cTin _ [(2, 6), (2, 8), (2, 10)] rfl (by decide +kernel)
theorem wsL_law_in0 : ∀ w ∈ wsL_law0, w ∈ lw_tbl := fun w h => ((goodIn_app (goodIn_app (goodIn_app (goodIn_app (goodIn_app (goodIn_app (goodIn_app (goodIn_app (goodIn_app (goodIn_app (goodIn_app (goodIn_app (goodIn_app (goodIn_app (goodIn_app wsL_in_wsL_law0_r1 (goodIn_app wsL_in_wsL_law0_r2 (goodIn_app wsL_in_wsL_law0_r3 (goodIn_app wsL_in_wsL_law0_r4 (goodIn_app wsL_in_wsL_law0_r5 (goodIn_app wsL_in_wsL_law0_r6 (goodIn_app wsL_in_wsL_law0_r7 (goodIn_app wsL_in_wsL_law0_r8 (goodIn_app wsL_in_wsL_law0_r9 (goodIn_app wsL_in_wsL_law0_r10 (goodIn_app wsL_in_wsL_law0_r11 (goodIn_app wsL_in_wsL_law0_r12 (goodIn_app wsL_in_wsL_law0_r13 (goodIn_app wsL_in_wsL_law0_r14 (goodIn_app wsL_in_wsL_law0_r15 (goodIn_app wsL_in_wsL_law0_r16 (goodIn_app wsL_in_wsL_law0_r17 (goodIn_app wsL_in_wsL_law0_r18 (goodIn_app wsL_in_wsL_law0_r19 (goodIn_app wsL_in_wsL_law0_r20 (goodIn_app wsL_in_wsL_law0_r21 (goodIn_app wsL_in_wsL_law0_r22 (goodIn_app wsL_in_wsL_law0_r23 (goodIn_app wsL_in_wsL_law0_r24 (goodIn_app wsL_in_wsL_law0_r25 (goodIn_app wsL_in_wsL_law0_r26 (goodIn_app wsL_in_wsL_law0_r27 (goodIn_app wsL_in_wsL_law0_r28 (goodIn_app wsL_in_wsL_law0_r29 (goodIn_app wsL_in_wsL_law0_r30 (goodIn_app wsL_in_wsL_law0_r31 (goodIn_app wsL_in_wsL_law0_r32 (goodIn_app wsL_in_wsL_law0_r33 (goodIn_app wsL_in_wsL_law0_r34 (goodIn_app wsL_in_wsL_law0_r35 (goodIn_app wsL_in_wsL_law0_r36 (goodIn_app wsL_in_wsL_law0_r37 (goodIn_app wsL_in_wsL_law0_r38 (goodIn_app wsL_in_wsL_law0_r39 (goodIn_app wsL_in_wsL_law0_r40 (goodIn_app wsL_in_wsL_law0_r41 (goodIn_app wsL_in_wsL_law0_r42 (goodIn_app wsL_in_wsL_law0_r43 (goodIn_app wsL_in_wsL_law0_r44 (goodIn_app wsL_in_wsL_law0_r45 (goodIn_app wsL_in_wsL_law0_r46 (goodIn_app wsL_in_wsL_law0_r47 (goodIn_app wsL_in_wsL_law0_r48 (goodIn_app wsL_in_wsL_law0_r49 (goodIn_app wsL_in_wsL_law0_r50 (goodIn_app wsL_in_wsL_law0_r51 wsL_in_wsL_law0_r52))))))))))))))))))))))))))))))))))))))))))))))))))) wsL_in_wsX110) wsL_in_wsX120) wsL_in_wsX50) wsL_in_wsX80) wsL_in_wsX60) wsL_in_wsX40) wsL_in_wsX00) wsL_in_wsX20) wsL_in_wsX90) wsL_in_wsX30) wsL_in_wsX100) wsL_in_wsX70) wsL_in_wsX10) (fun _ h => absurd h List.not_mem_nil)) w h).1
