set_option maxRecDepth 20000 in
theorem gX11_expect_X4_put : GoodIn wsX11_expect (wsV RX11 201 RX4 yX4_put wsX4_put) := goodIn_app (goodIn_of _ (by decide +kernel)) ggX11_expect_X4_put
set_option maxRecDepth 20000 in
theorem ggX11_judge_X11_isPlayer : GoodIn wsX11_judge wsX11_isPlayer := goodIn_r _ [15] rfl (by decide +kernel)
set_option maxRecDepth 20000 in
theorem gX11_judge_X11_isPlayer : GoodIn wsX11_judge (va_wsS RX11 218 yX11_isPlayer wsX11_isPlayer) := goodIn_app (goodIn_of _ (by decide +kernel)) ggX11_judge_X11_isPlayer
set_option maxRecDepth 20000 in
theorem ggX11_judge_X11_isGood : GoodIn wsX11_judge wsX11_isGood := goodIn_s _ [(19, 2), (7, 1), (21, 14), (14, 1), (35, 16), (264, 16), (282, 15)] rfl (by decide +kernel)
set_option maxRecDepth 20000 in
theorem gX11_judge_X11_isGood : GoodIn wsX11_judge (wsV RX11 173 RX11 yX11_isGood wsX11_isGood) := goodIn_app (goodIn_of _ (by decide +kernel)) ggX11_judge_X11_isGood
set_option maxRecDepth 20000 in
theorem ggX11_judge_X11_spreadWay : GoodIn wsX11_judge wsX11_spreadWay := goodIn_s _ [(54, 1), (20, 1), (7, 1), (21, 1), (8, 1), (55, 3), (25, 1), (58, 2), (27, 2), (60, 26), (29, 6), (14, 1), (35, 16), (86, 12), (264, 16), (282, 4), (280, 2), (286, 14)] rfl (by decide +kernel)
set_option maxRecDepth 20000 in
theorem gX11_judge_X11_spreadWay : GoodIn wsX11_judge (wsV RX11 207 RX11 yX11_spreadWay wsX11_spreadWay) := goodIn_app (goodIn_of _ (by decide +kernel)) ggX11_judge_X11_spreadWay
set_option maxRecDepth 20000 in
theorem ggX11_judge_X11_other : GoodIn wsX11_judge wsX11_other := goodIn_r _ [100] rfl (by decide +kernel)
set_option maxRecDepth 20000 in
theorem gX11_judge_X11_other : GoodIn wsX11_judge (va_wsS RX11 225 yX11_other wsX11_other) := goodIn_app (goodIn_of _ (by decide +kernel)) ggX11_judge_X11_other
set_option maxRecDepth 20000 in
theorem ggX11_judge_X6_work : GoodIn wsX11_judge wsX6_work := goodIn_s _ [(105, 10), (104, 1), (115, 5), (99, 1), (14, 1), (100, 1), (120, 1), (79, 7), (121, 12), (41, 1), (133, 5), (90, 1), (138, 4), (91, 4), (142, 44), (72, 3), (186, 1), (76, 2), (282, 12), (300, 5), (280, 2), (297, 3)] rfl (by decide +kernel)
set_option maxRecDepth 20000 in
theorem gX11_judge_X6_work : GoodIn wsX11_judge (wsV RX11 229 RX6 yX6_work wsX6_work) := goodIn_app (goodIn_of _ (by decide +kernel)) ggX11_judge_X6_work
set_option maxRecDepth 20000 in
theorem ggX11_judge_X6_worth : GoodIn wsX11_judge wsX6_worth := goodIn_s _ [(190, 1), (109, 1), (300, 5)] rfl (by decide +kernel)
set_option maxRecDepth 20000 in
theorem gX11_judge_X6_worth : GoodIn wsX11_judge (wsV RX11 232 RX6 yX6_worth wsX6_worth) := goodIn_app (goodIn_of _ (by decide +kernel)) ggX11_judge_X6_worth
set_option maxRecDepth 20000 in
theorem ggX11_judge_X4_put : GoodIn wsX11_judge wsX4_put := goodIn_s _ [(195, 8), (147, 2), (81, 1), (149, 1), (84, 2), (131, 2), (41, 1), (133, 1), (150, 4), (83, 1), (203, 1), (87, 8), (204, 1), (79, 2), (82, 1), (205, 3), (194, 1), (208, 18), (134, 4), (226, 8), (159, 3), (234, 1), (163, 3), (235, 29), (305, 6), (297, 3), (311, 3)] rfl (by decide +kernel)
set_option maxRecDepth 20000 in
theorem gX11_judge_X4_put : GoodIn wsX11_judge (wsV RX11 201 RX4 yX4_put wsX4_put) := goodIn_app (goodIn_of _ (by decide +kernel)) ggX11_judge_X4_put
set_option maxRecDepth 20000 in
theorem ggL_tell_X11_tell : GoodIn wsL_tell wsX11_tell := goodIn_ca (goodIn_ca (goodIn_s _ [(7, 9), (6, 1), (16, 68)] rfl (by decide +kernel)) (goodIn_sub (fun _ h => List.mem_cons_of_mem _ (List.mem_append_left _ (List.mem_append_right _ h))) (by decide +kernel))) (goodIn_sub (fun _ h => List.mem_cons_of_mem _ (List.mem_append_right _ h)) (by decide +kernel))
set_option maxRecDepth 20000 in
theorem gL_tell_X11_tell : GoodIn wsL_tell (wsV RL 7 RX11 yX11_tell wsX11_tell) := goodIn_app (goodIn_of _ (by decide +kernel)) ggL_tell_X11_tell
theorem dL_tell_0 : decode cL_tell 0 = .ok (.aload_n 0, 1) := by decide +kernel
theorem dL_tell_1 : decode cL_tell 1 = .ok (.iload_n 1, 1) := by decide +kernel
theorem dL_tell_2 : decode cL_tell 2 = .ok (.iload_n 2, 1) := by decide +kernel
theorem dL_tell_3 : decode cL_tell 3 = .ok (.iload_n 3, 1) := by decide +kernel
theorem dL_tell_4 : decode cL_tell 4 = .ok (.iload 4, 2) := by decide +kernel
theorem dL_tell_6 : decode cL_tell 6 = .ok (.iload 5, 2) := by decide +kernel
theorem dL_tell_8 : decode cL_tell 8 = .ok (.invokevirtual 7, 3) := by decide +kernel
theorem dL_tell_11 : decode cL_tell 11 = .ok (.goto 11, 3) := by decide +kernel
theorem dL_tell_14 : decode cL_tell 14 = .ok (.astore 6, 2) := by decide +kernel
theorem dL_tell_16 : decode cL_tell 16 = .ok (.iconst 1, 1) := by decide +kernel
theorem dL_tell_17 : decode cL_tell 17 = .ok (.ireturn, 1) := by decide +kernel
theorem dL_tell_18 : decode cL_tell 18 = .ok (.astore 6, 2) := by decide +kernel
theorem dL_tell_20 : decode cL_tell 20 = .ok (.iconst 2, 1) := by decide +kernel
theorem dL_tell_21 : decode cL_tell 21 = .ok (.ireturn, 1) := by decide +kernel
theorem dL_tell_22 : decode cL_tell 22 = .ok (.iconst 0, 1) := by decide +kernel
theorem dL_tell_23 : decode cL_tell 23 = .ok (.ireturn, 1) := by decide +kernel
set_option maxRecDepth 20000 in
theorem ggL_solve_X11_solve : GoodIn wsL_solve wsX11_solve := goodIn_ca (goodIn_s _ [(6, 322)] rfl (by decide +kernel)) (goodIn_sub (fun _ h => List.mem_cons_of_mem _ (List.mem_append_right _ h)) (by decide +kernel))
set_option maxRecDepth 20000 in
theorem gL_solve_X11_solve : GoodIn wsL_solve (wsV RL 17 RX11 yX11_solve wsX11_solve) := goodIn_app (goodIn_of _ (by decide +kernel)) ggL_solve_X11_solve
theorem dL_solve_0 : decode cL_solve 0 = .ok (.aload_n 0, 1) := by decide +kernel
theorem dL_solve_1 : decode cL_solve 1 = .ok (.invokevirtual 17, 3) := by decide +kernel
theorem dL_solve_4 : decode cL_solve 4 = .ok (.goto 6, 3) := by decide +kernel
theorem dL_solve_7 : decode cL_solve 7 = .ok (.astore_n 1, 1) := by decide +kernel
theorem dL_solve_8 : decode cL_solve 8 = .ok (.iconst 1, 1) := by decide +kernel
theorem dL_solve_9 : decode cL_solve 9 = .ok (.ireturn, 1) := by decide +kernel
theorem dL_solve_10 : decode cL_solve 10 = .ok (.iconst 0, 1) := by decide +kernel
theorem dL_solve_11 : decode cL_solve 11 = .ok (.ireturn, 1) := by decide +kernel
set_option maxRecDepth 20000 in
theorem ggL_expect_X11_expect : GoodIn wsL_expect wsX11_expect := goodIn_ca (goodIn_s _ [(6, 15), (5, 1), (21, 266)] rfl (by decide +kernel)) (goodIn_sub (fun _ h => List.mem_cons_of_mem _ (List.mem_append_right _ h)) (by decide +kernel))
