set_option maxRecDepth 20000 in
theorem gL_expect_X11_expect : GoodIn wsL_expect (wsV RL 22 RX11 yX11_expect wsX11_expect) := goodIn_app (goodIn_of _ (by decide +kernel)) ggL_expect_X11_expect
theorem dL_expect_0 : decode cL_expect 0 = .ok (.aload_n 0, 1) := by decide +kernel
theorem dL_expect_1 : decode cL_expect 1 = .ok (.invokevirtual 22, 3) := by decide +kernel
theorem dL_expect_4 : decode cL_expect 4 = .ok (.goto 6, 3) := by decide +kernel
theorem dL_expect_7 : decode cL_expect 7 = .ok (.astore_n 1, 1) := by decide +kernel
theorem dL_expect_8 : decode cL_expect 8 = .ok (.iconst 1, 1) := by decide +kernel
theorem dL_expect_9 : decode cL_expect 9 = .ok (.ireturn, 1) := by decide +kernel
theorem dL_expect_10 : decode cL_expect 10 = .ok (.iconst 0, 1) := by decide +kernel
theorem dL_expect_11 : decode cL_expect 11 = .ok (.ireturn, 1) := by decide +kernel
set_option maxRecDepth 20000 in
theorem ggL_judge_X11_judge : GoodIn wsL_judge wsX11_judge := goodIn_ca (goodIn_ca (goodIn_s _ [(7, 14), (6, 1), (21, 299)] rfl (by decide +kernel)) (goodIn_sub (fun _ h => List.mem_cons_of_mem _ (List.mem_append_left _ (List.mem_append_right _ h))) (by decide +kernel))) (goodIn_sub (fun _ h => List.mem_cons_of_mem _ (List.mem_append_right _ h)) (by decide +kernel))
set_option maxRecDepth 20000 in
theorem gL_judge_X11_judge : GoodIn wsL_judge (wsV RL 25 RX11 yX11_judge wsX11_judge) := goodIn_app (goodIn_of _ (by decide +kernel)) ggL_judge_X11_judge
theorem dL_judge_0 : decode cL_judge 0 = .ok (.aload_n 0, 1) := by decide +kernel
theorem dL_judge_1 : decode cL_judge 1 = .ok (.iload_n 1, 1) := by decide +kernel
theorem dL_judge_2 : decode cL_judge 2 = .ok (.invokevirtual 25, 3) := by decide +kernel
theorem dL_judge_5 : decode cL_judge 5 = .ok (.goto 9, 3) := by decide +kernel
theorem dL_judge_8 : decode cL_judge 8 = .ok (.astore_n 2, 1) := by decide +kernel
theorem dL_judge_9 : decode cL_judge 9 = .ok (.iconst 1, 1) := by decide +kernel
theorem dL_judge_10 : decode cL_judge 10 = .ok (.ireturn, 1) := by decide +kernel
theorem dL_judge_11 : decode cL_judge 11 = .ok (.astore_n 2, 1) := by decide +kernel
theorem dL_judge_12 : decode cL_judge 12 = .ok (.iconst 2, 1) := by decide +kernel
theorem dL_judge_13 : decode cL_judge 13 = .ok (.ireturn, 1) := by decide +kernel
theorem dL_judge_14 : decode cL_judge 14 = .ok (.iconst 0, 1) := by decide +kernel
theorem dL_judge_15 : decode cL_judge 15 = .ok (.ireturn, 1) := by decide +kernel
set_option maxRecDepth 20000 in
theorem ggL_law_X11_init : GoodIn wsL_law wsX11_init := goodIn_t wsL_Sin _ [(0, 9, 15), (1, 0, 24), (2, 0, 24), (3, 0, 24), (4, 0, 24), (5, 0, 24), (6, 0, 24), (7, 0, 17), (54, 0, 13), (52, 0, 16), (55, 0, 13), (56, 0, 5), (57, 0, 6), (58, 0, 3), (59, 0, 4), (60, 0, 3), (61, 0, 2), (62, 0, 6), (63, 0, 8), (64, 0, 3)] rfl (by decide +kernel)
set_option maxRecDepth 20000 in
theorem gL_law_X11_init : GoodIn wsL_law (wsX11_init) := ggL_law_X11_init
set_option maxRecDepth 20000 in
theorem ggL_law_X12_init : GoodIn wsL_law wsX12_init := goodIn_t wsL_Sin _ [(7, 19, 2), (0, 11, 2), (7, 21, 1), (3, 2, 1), (7, 22, 2), (2, 17, 1), (8, 0, 12), (2, 23, 1), (8, 12, 12), (9, 0, 20), (53, 0, 58)] rfl (by decide +kernel)
set_option maxRecDepth 20000 in
theorem gL_law_X12_init : GoodIn wsL_law (wsX12_init) := ggL_law_X12_init
set_option maxRecDepth 20000 in
theorem ggL_law_X11_type : GoodIn wsL_law wsX11_type := goodIn_t wsL_Sin _ [(9, 23, 1), (0, 16, 1), (10, 0, 5), (2, 13, 1), (10, 5, 1), (3, 9, 1), (3, 8, 1), (10, 6, 3), (52, 0, 16), (54, 0, 13), (62, 0, 6)] rfl (by decide +kernel)
set_option maxRecDepth 20000 in
theorem gL_law_X11_type : GoodIn wsL_law (wsV RL 35 RX11 yX11_type wsX11_type) := goodIn_app (goodIn_q wsL_Sin _ [(9, 20), (9, 21), (9, 22), (0, 2)] rfl (by decide +kernel)) ggL_law_X11_type
set_option maxRecDepth 20000 in
theorem ggL_law_X12_type : GoodIn wsL_law wsX12_type := goodIn_t wsL_Sin _ [(10, 12, 6), (8, 2, 1), (53, 0, 58)] rfl (by decide +kernel)
set_option maxRecDepth 20000 in
theorem gL_law_X12_type : GoodIn wsL_law (wsV RL 39 RX12 yX12_type wsX12_type) := goodIn_app (goodIn_q wsL_Sin _ [(10, 9), (10, 10), (10, 11), (0, 5)] rfl (by decide +kernel)) ggL_law_X12_type
set_option maxRecDepth 20000 in
theorem ggL_law_X11_read : GoodIn wsL_law wsX11_read := goodIn_t wsL_Sin _ [(10, 21, 1), (0, 16, 1), (10, 22, 1), (2, 1, 1), (10, 0, 2), (1, 23, 1), (2, 0, 1), (10, 23, 1), (11, 0, 2), (0, 15, 1), (11, 2, 1), (2, 16, 1), (2, 10, 1), (2, 9, 1), (2, 14, 1), (11, 3, 4), (1, 22, 1), (11, 7, 1), (3, 18, 1), (3, 20, 1), (11, 8, 1), (3, 23, 1), (11, 9, 3), (2, 13, 1), (11, 12, 1), (3, 13, 1), (11, 13, 4), (3, 9, 1), (3, 8, 1), (3, 11, 1), (3, 10, 1), (11, 17, 4), (3, 12, 1), (11, 21, 3), (12, 0, 4), (2, 19, 2), (12, 4, 13), (2, 18, 1), (12, 17, 7), (13, 0, 20), (2, 22, 1), (2, 21, 1), (3, 0, 2), (3, 3, 2), (13, 20, 4), (14, 0, 2), (0, 2, 1), (14, 2, 22), (15, 0, 1), (4, 1, 1), (15, 1, 1), (4, 5, 2), (15, 2, 5), (4, 7, 1), (4, 9, 1), (4, 8, 1), (15, 7, 17), (16, 0, 21), (4, 10, 3), (16, 21, 3), (17, 0, 19), (1, 11, 1), (17, 19, 1), (1, 1, 1), (17, 20, 3), (2, 3, 1), (17, 23, 1), (7, 6, 2), (52, 0, 16), (54, 0, 13), (62, 0, 6), (59, 0, 4), (63, 0, 8), (57, 0, 6), (60, 0, 3)] rfl (by decide +kernel)
set_option maxRecDepth 20000 in
theorem gL_law_X11_read : GoodIn wsL_law (wsV RL 40 RX11 yX11_read wsX11_read) := goodIn_app (goodIn_q wsL_Sin _ [(10, 18), (10, 19), (10, 20), (0, 2)] rfl (by decide +kernel)) ggL_law_X11_read
