set_option maxRecDepth 20000 in
theorem ggL_law_X12_read : GoodIn wsL_law wsX12_read := goodIn_t wsL_Sin _ [(18, 3, 1), (10, 13, 2), (8, 5, 1), (8, 3, 1), (18, 4, 2), (9, 3, 1), (18, 6, 2), (9, 14, 1), (9, 12, 2), (18, 8, 3), (0, 5, 1), (18, 11, 2), (8, 2, 1), (8, 4, 1), (8, 6, 1), (18, 13, 11), (8, 7, 1), (19, 0, 16), (8, 8, 4), (8, 19, 1), (8, 21, 1), (19, 16, 7), (9, 4, 6), (19, 23, 1), (20, 0, 7), (8, 22, 2), (9, 0, 1), (20, 7, 13), (8, 12, 2), (8, 15, 1), (8, 17, 2), (8, 16, 1), (20, 20, 4), (9, 1, 2), (21, 0, 4), (9, 10, 2), (21, 4, 12), (8, 20, 1), (21, 16, 1), (8, 14, 1), (21, 17, 4), (53, 0, 58)] rfl (by decide +kernel)
set_option maxRecDepth 20000 in
theorem gL_law_X12_read : GoodIn wsL_law (wsV RL 44 RX12 yX12_read wsX12_read) := goodIn_app (goodIn_q wsL_Sin _ [(18, 0), (18, 1), (18, 2), (0, 5)] rfl (by decide +kernel)) ggL_law_X12_read
set_option maxRecDepth 20000 in
theorem ggL_law_X11_place : GoodIn wsL_law wsX11_place := goodIn_t wsL_Sin _ [(22, 0, 1), (2, 1, 1), (52, 0, 16)] rfl (by decide +kernel)
set_option maxRecDepth 20000 in
theorem gL_law_X11_place : GoodIn wsL_law (wsV RL 45 RX11 yX11_place wsX11_place) := goodIn_app (goodIn_q wsL_Sin _ [(21, 21), (21, 22), (21, 23), (0, 2)] rfl (by decide +kernel)) ggL_law_X11_place
set_option maxRecDepth 20000 in
theorem ggL_law_X12_place : GoodIn wsL_law wsX12_place := goodIn_t wsL_Sin _ [(22, 4, 1), (10, 13, 1), (8, 3, 1), (53, 0, 58)] rfl (by decide +kernel)
set_option maxRecDepth 20000 in
theorem gL_law_X12_place : GoodIn wsL_law (wsV RL 48 RX12 yX12_place wsX12_place) := goodIn_app (goodIn_q wsL_Sin _ [(22, 1), (22, 2), (22, 3), (0, 5)] rfl (by decide +kernel)) ggL_law_X12_place
set_option maxRecDepth 20000 in
theorem ggL_law_X11_count : GoodIn wsL_law wsX11_count := goodIn_t wsL_Sin _ [(22, 8, 1), (2, 0, 1), (1, 23, 1), (22, 9, 1), (52, 0, 16), (59, 0, 4)] rfl (by decide +kernel)
set_option maxRecDepth 20000 in
theorem gL_law_X11_count : GoodIn wsL_law (wsV RL 49 RX11 yX11_count wsX11_count) := goodIn_app (goodIn_q wsL_Sin _ [(22, 5), (22, 6), (22, 7), (0, 2)] rfl (by decide +kernel)) ggL_law_X11_count
set_option maxRecDepth 20000 in
theorem ggL_law_X12_count : GoodIn wsL_law wsX12_count := goodIn_t wsL_Sin _ [(22, 13, 1), (10, 13, 1), (18, 7, 1), (8, 8, 1), (18, 6, 1), (8, 9, 3), (53, 0, 58)] rfl (by decide +kernel)
set_option maxRecDepth 20000 in
theorem gL_law_X12_count : GoodIn wsL_law (wsV RL 53 RX12 yX12_count wsX12_count) := goodIn_app (goodIn_q wsL_Sin _ [(22, 10), (22, 11), (22, 12), (0, 5)] rfl (by decide +kernel)) ggL_law_X12_count
set_option maxRecDepth 20000 in
theorem ggL_law_X11_sets : GoodIn wsL_law wsX11_sets := goodIn_t wsL_Sin _ [(22, 17, 5), (0, 2, 1), (22, 22, 1), (2, 0, 1), (22, 23, 1), (23, 0, 6), (1, 23, 1), (23, 6, 1), (63, 0, 8), (52, 0, 16), (59, 0, 4)] rfl (by decide +kernel)
set_option maxRecDepth 20000 in
theorem gL_law_X11_sets : GoodIn wsL_law (wsV RL 54 RX11 yX11_sets wsX11_sets) := goodIn_app (goodIn_q wsL_Sin _ [(22, 14), (22, 15), (22, 16), (0, 2)] rfl (by decide +kernel)) ggL_law_X11_sets
set_option maxRecDepth 20000 in
theorem ggL_law_X12_sets : GoodIn wsL_law wsX12_sets := goodIn_t wsL_Sin _ [(23, 10, 1), (10, 13, 1), (23, 11, 3), (0, 5, 1), (23, 14, 1), (18, 7, 1), (23, 15, 4), (8, 21, 1), (18, 6, 1), (53, 0, 58)] rfl (by decide +kernel)
set_option maxRecDepth 20000 in
theorem gL_law_X12_sets : GoodIn wsL_law (wsV RL 57 RX12 yX12_sets wsX12_sets) := goodIn_app (goodIn_q wsL_Sin _ [(23, 7), (23, 8), (23, 9), (0, 5)] rfl (by decide +kernel)) ggL_law_X12_sets
set_option maxRecDepth 20000 in
theorem ggL_law_X11_set : GoodIn wsL_law wsX11_set := goodIn_t wsL_Sin _ [(23, 22, 2), (24, 0, 2), (22, 19, 3), (0, 2, 1), (22, 22, 1), (2, 0, 1), (22, 23, 1), (23, 0, 6), (1, 23, 1), (23, 6, 1), (24, 2, 3), (4, 1, 1), (24, 5, 1), (4, 5, 1), (63, 0, 8), (52, 0, 16), (59, 0, 4)] rfl (by decide +kernel)
set_option maxRecDepth 20000 in
theorem gL_law_X11_set : GoodIn wsL_law (wsV RL 58 RX11 yX11_set wsX11_set) := goodIn_app (goodIn_q wsL_Sin _ [(23, 19), (23, 20), (23, 21), (0, 2)] rfl (by decide +kernel)) ggL_law_X11_set
set_option maxRecDepth 20000 in
theorem ggL_law_X12_set : GoodIn wsL_law wsX12_set := goodIn_t wsL_Sin _ [(24, 9, 1), (10, 13, 1), (18, 6, 1), (8, 23, 1), (8, 22, 1), (9, 0, 1), (24, 10, 3), (0, 5, 1), (24, 13, 1), (23, 11, 4), (18, 7, 1), (23, 15, 4), (8, 21, 1), (53, 0, 58)] rfl (by decide +kernel)
set_option maxRecDepth 20000 in
theorem gL_law_X12_set : GoodIn wsL_law (wsV RL 62 RX12 yX12_set wsX12_set) := goodIn_app (goodIn_q wsL_Sin _ [(24, 6), (24, 7), (24, 8), (0, 5)] rfl (by decide +kernel)) ggL_law_X12_set
set_option maxRecDepth 20000 in
theorem ggL_law_X11_plans : GoodIn wsL_law wsX11_plans := goodIn_t wsL_Sin _ [(24, 17, 1), (22, 19, 3), (0, 2, 1), (22, 22, 1), (2, 0, 1), (22, 23, 1), (23, 0, 6), (1, 23, 1), (23, 6, 1), (24, 18, 1), (16, 9, 2), (4, 1, 1), (16, 11, 1), (4, 5, 1), (4, 7, 1), (52, 0, 16), (59, 0, 4), (63, 0, 8)] rfl (by decide +kernel)
set_option maxRecDepth 20000 in
theorem gL_law_X11_plans : GoodIn wsL_law (wsV RL 63 RX11 yX11_plans wsX11_plans) := goodIn_app (goodIn_q wsL_Sin _ [(24, 14), (24, 15), (24, 16), (0, 2)] rfl (by decide +kernel)) ggL_law_X11_plans
set_option maxRecDepth 20000 in
theorem ggL_law_X12_plans : GoodIn wsL_law wsX12_plans := goodIn_t wsL_Sin _ [(24, 22, 1), (10, 13, 1), (18, 6, 1), (23, 11, 3), (0, 5, 1), (23, 14, 1), (18, 7, 1), (21, 17, 4), (8, 21, 1), (8, 23, 1), (53, 0, 58)] rfl (by decide +kernel)
set_option maxRecDepth 20000 in
theorem gL_law_X12_plans : GoodIn wsL_law (wsV RL 66 RX12 yX12_plans wsX12_plans) := goodIn_app (goodIn_q wsL_Sin _ [(24, 19), (24, 20), (24, 21), (0, 5)] rfl (by decide +kernel)) ggL_law_X12_plans
set_option maxRecDepth 20000 in
theorem ggL_law_L_tell : GoodIn wsL_law wsL_tell := goodIn_ca (goodIn_ca (goodIn_t wsL_Sin _ [(25, 2, 6), (0, 2, 1), (25, 8, 5), (1, 1, 1), (22, 19, 4), (2, 0, 1), (22, 23, 1), (23, 0, 6), (1, 23, 1), (23, 6, 1), (25, 13, 3), (4, 1, 1), (25, 16, 1), (4, 7, 1), (25, 17, 1), (24, 3, 3), (4, 5, 1), (25, 18, 3), (2, 3, 1), (25, 21, 1), (7, 6, 2), (14, 1, 4), (13, 18, 1), (14, 5, 3), (52, 0, 16), (59, 0, 4), (63, 0, 8), (60, 0, 3)] rfl (by decide +kernel)) (goodIn_sub (fun _ h => List.mem_append_left _ (List.mem_append_left _ (List.mem_append_right _ h))) (by decide +kernel))) (goodIn_sub (fun _ h => List.mem_append_left _ (List.mem_append_right _ h)) (by decide +kernel))
set_option maxRecDepth 20000 in
theorem gL_law_L_tell : GoodIn wsL_law (va_wsS RL 67 yL_tell wsL_tell) := goodIn_app (goodIn_q wsL_Sin _ [(24, 23), (25, 0), (25, 1)] rfl (by decide +kernel)) ggL_law_L_tell
set_option maxRecDepth 20000 in
theorem ggL_law_X12_tell : GoodIn wsL_law wsX12_tell := goodIn_t wsL_Sin _ [(26, 1, 1), (10, 13, 1), (9, 12, 2), (24, 10, 3), (0, 5, 1), (24, 13, 1), (23, 11, 4), (18, 7, 1), (23, 15, 4), (8, 21, 1), (18, 6, 1), (26, 2, 4), (8, 23, 1), (53, 0, 58)] rfl (by decide +kernel)
