set_option maxRecDepth 20000 in
theorem gL_law_L_judge : GoodIn wsL_law (va_wsS RL 84 yL_judge wsL_judge) := goodIn_app (goodIn_q wsL_Sin _ [(45, 11), (45, 12), (25, 1)] rfl (by decide +kernel)) ggL_law_L_judge
set_option maxRecDepth 20000 in
theorem ggL_law_X12_judge : GoodIn wsL_law wsX12_judge := goodIn_t wsL_Sin _ [(46, 22, 1), (18, 7, 1), (10, 13, 1), (9, 14, 1), (9, 16, 1), (9, 15, 1), (27, 8, 3), (0, 5, 1), (27, 11, 1), (9, 13, 1), (9, 12, 1), (23, 15, 4), (8, 21, 1), (18, 6, 1), (26, 2, 4), (8, 23, 1), (37, 7, 4), (44, 15, 4), (8, 9, 1), (8, 14, 1), (8, 20, 1), (8, 15, 4), (44, 19, 4), (37, 19, 4), (8, 0, 1), (7, 22, 1), (37, 23, 1), (7, 23, 1), (38, 0, 4), (42, 3, 4), (41, 19, 4), (40, 2, 4), (41, 7, 4), (39, 5, 1), (39, 18, 4), (41, 11, 8), (39, 6, 4), (40, 23, 1), (41, 0, 7), (44, 23, 1), (45, 0, 3), (39, 1, 4), (45, 3, 4), (40, 10, 9), (39, 14, 4), (40, 19, 4), (46, 23, 1), (47, 0, 3), (39, 10, 4), (38, 17, 4), (45, 7, 4), (38, 4, 4), (53, 0, 58)] rfl (by decide +kernel)
set_option maxRecDepth 20000 in
theorem gL_law_X12_judge : GoodIn wsL_law (wsV RL 87 RX12 yX12_judge wsX12_judge) := goodIn_app (goodIn_q wsL_Sin _ [(46, 19), (46, 20), (46, 21), (0, 5)] rfl (by decide +kernel)) ggL_law_X12_judge
set_option maxRecDepth 20000 in
theorem ggL_law_X12_thrown : GoodIn wsL_law wsX12_thrown := goodIn_t wsL_Sin _ [(47, 6, 1), (10, 13, 1), (53, 0, 58)] rfl (by decide +kernel)
set_option maxRecDepth 20000 in
theorem gL_law_X12_thrown : GoodIn wsL_law (wsV RL 88 RX12 yX12_thrown wsX12_thrown) := goodIn_app (goodIn_q wsL_Sin _ [(47, 3), (47, 4), (47, 5), (0, 5)] rfl (by decide +kernel)) ggL_law_X12_thrown
set_option maxRecDepth 20000 in
theorem ggL_law_X11_reply : GoodIn wsL_law wsX11_reply := goodIn_t wsL_Sin _ [(47, 10, 1), (1, 11, 1), (17, 19, 1), (1, 23, 1), (23, 6, 1), (1, 6, 1), (47, 11, 1), (22, 19, 3), (0, 2, 1), (22, 22, 1), (2, 0, 1), (22, 23, 1), (23, 0, 2), (45, 18, 1), (44, 1, 2), (24, 2, 3), (4, 1, 1), (24, 5, 1), (4, 5, 1), (52, 0, 16), (57, 0, 6), (59, 0, 4), (56, 0, 5), (63, 0, 8)] rfl (by decide +kernel)
set_option maxRecDepth 20000 in
theorem gL_law_X11_reply : GoodIn wsL_law (wsV RL 91 RX11 yX11_reply wsX11_reply) := goodIn_app (goodIn_q wsL_Sin _ [(47, 7), (47, 8), (47, 9), (0, 2)] rfl (by decide +kernel)) ggL_law_X11_reply
set_option maxRecDepth 20000 in
theorem ggL_law_X12_reply : GoodIn wsL_law wsX12_reply := goodIn_t wsL_Sin _ [(47, 15, 1), (10, 13, 1), (9, 14, 1), (9, 16, 1), (23, 11, 3), (0, 5, 1), (23, 14, 1), (18, 7, 1), (24, 10, 4), (23, 15, 4), (8, 21, 1), (18, 6, 1), (53, 0, 58)] rfl (by decide +kernel)
set_option maxRecDepth 20000 in
theorem gL_law_X12_reply : GoodIn wsL_law (wsV RL 95 RX12 yX12_reply wsX12_reply) := goodIn_app (goodIn_q wsL_Sin _ [(47, 12), (47, 13), (47, 14), (0, 5)] rfl (by decide +kernel)) ggL_law_X12_reply
set_option maxRecDepth 20000 in
theorem ggL_law_X11_print : GoodIn wsL_law wsX11_print := goodIn_t wsL_Sin _ [(47, 19, 1), (1, 11, 1), (0, 18, 2), (47, 20, 3), (0, 2, 1), (47, 23, 1), (17, 19, 1), (48, 0, 3), (1, 13, 1), (48, 3, 1), (6, 16, 1), (36, 17, 1), (6, 17, 1), (48, 4, 4), (6, 19, 1), (35, 23, 1), (36, 0, 1), (32, 20, 2), (1, 17, 1), (32, 22, 1), (5, 14, 1), (5, 16, 1), (31, 10, 1), (13, 17, 3), (32, 23, 1), (33, 0, 3), (5, 15, 1), (48, 8, 4), (31, 11, 5), (31, 20, 4), (48, 12, 1), (35, 0, 3), (52, 0, 16), (57, 0, 6), (58, 0, 3)] rfl (by decide +kernel)
set_option maxRecDepth 20000 in
theorem gL_law_X11_print : GoodIn wsL_law (wsV RL 96 RX11 yX11_print wsX11_print) := goodIn_app (goodIn_q wsL_Sin _ [(47, 16), (47, 17), (47, 18), (0, 2)] rfl (by decide +kernel)) ggL_law_X11_print
set_option maxRecDepth 20000 in
theorem ggL_law_X12_print : GoodIn wsL_law wsX12_print := goodIn_t wsL_Sin _ [(48, 16, 1), (10, 13, 1), (48, 17, 1), (9, 19, 1), (48, 18, 3), (0, 5, 1), (48, 21, 1), (9, 14, 1), (38, 17, 4), (7, 23, 1), (8, 0, 1), (48, 22, 2), (49, 0, 2), (40, 2, 4), (7, 22, 1), (38, 0, 4), (49, 2, 4), (40, 18, 1), (39, 6, 4), (41, 19, 4), (40, 23, 1), (41, 0, 3), (53, 0, 58)] rfl (by decide +kernel)
set_option maxRecDepth 20000 in
theorem gL_law_X12_print : GoodIn wsL_law (wsV RL 99 RX12 yX12_print wsX12_print) := goodIn_app (goodIn_q wsL_Sin _ [(48, 13), (48, 14), (48, 15), (0, 5)] rfl (by decide +kernel)) ggL_law_X12_print
set_option maxRecDepth 20000 in
theorem ggL_law_X11_character : GoodIn wsL_law wsX11_character := goodIn_t wsL_Sin _ [(49, 9, 1), (0, 19, 1), (0, 18, 1), (52, 0, 16)] rfl (by decide +kernel)
set_option maxRecDepth 20000 in
theorem gL_law_X11_character : GoodIn wsL_law (wsV RL 100 RX11 yX11_character wsX11_character) := goodIn_app (goodIn_q wsL_Sin _ [(49, 6), (49, 7), (49, 8), (0, 2)] rfl (by decide +kernel)) ggL_law_X11_character
set_option maxRecDepth 20000 in
theorem ggL_law_X12_character : GoodIn wsL_law wsX12_character := goodIn_t wsL_Sin _ [(49, 13, 1), (10, 13, 1), (48, 17, 1), (9, 19, 1), (53, 0, 58)] rfl (by decide +kernel)
set_option maxRecDepth 20000 in
theorem gL_law_X12_character : GoodIn wsL_law (wsV RL 103 RX12 yX12_character wsX12_character) := goodIn_app (goodIn_q wsL_Sin _ [(49, 10), (49, 11), (49, 12), (0, 5)] rfl (by decide +kernel)) ggL_law_X12_character
set_option maxRecDepth 20000 in
theorem ggL_law_X11_compare : GoodIn wsL_law wsX11_compare := goodIn_t wsL_Sin _ [(49, 17, 1), (1, 11, 1), (47, 20, 3), (0, 2, 1), (47, 23, 1), (17, 19, 1), (49, 18, 3), (1, 13, 1), (49, 21, 1), (6, 19, 1), (6, 16, 2), (6, 20, 1), (49, 22, 1), (31, 7, 2), (1, 17, 1), (31, 9, 1), (5, 14, 1), (5, 16, 1), (31, 10, 1), (13, 17, 3), (5, 15, 1), (31, 11, 13), (49, 23, 1), (32, 1, 4), (30, 23, 1), (31, 0, 2), (32, 5, 4), (52, 0, 16), (57, 0, 6), (58, 0, 3)] rfl (by decide +kernel)
