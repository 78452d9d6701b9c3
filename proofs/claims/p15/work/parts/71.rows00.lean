set_option maxRecDepth 20000 in
theorem ggX11_tell_X11_isPlaying : GoodIn wsX11_tell wsX11_isPlaying := goodIn_s _ [(10, 4), (9, 1), (14, 1), (47, 16)] rfl (by decide +kernel)
set_option maxRecDepth 20000 in
theorem gX11_tell_X11_isPlaying : GoodIn wsX11_tell (wsV RX11 125 RX11 yX11_isPlaying wsX11_isPlaying) := goodIn_app (goodIn_of _ (by decide +kernel)) ggX11_tell_X11_isPlaying
set_option maxRecDepth 20000 in
theorem ggX11_tell_X11_sideOf : GoodIn wsX11_tell wsX11_sideOf := goodIn_s _ [(18, 3), (47, 20)] rfl (by decide +kernel)
set_option maxRecDepth 20000 in
theorem gX11_tell_X11_sideOf : GoodIn wsX11_tell (wsV RX11 129 RX11 yX11_sideOf wsX11_sideOf) := goodIn_app (goodIn_of _ (by decide +kernel)) ggX11_tell_X11_sideOf
set_option maxRecDepth 20000 in
theorem ggX11_tell_X7_hasMove : GoodIn wsX11_tell wsX7_hasMove := goodIn_s _ [(25, 5), (24, 1), (30, 2), (67, 8)] rfl (by decide +kernel)
set_option maxRecDepth 20000 in
theorem gX11_tell_X7_hasMove : GoodIn wsX11_tell (wsV RX11 153 RX7 yX7_hasMove wsX7_hasMove) := goodIn_app (goodIn_of _ (by decide +kernel)) ggX11_tell_X7_hasMove
set_option maxRecDepth 20000 in
theorem ggX11_tell_X9_putChance : GoodIn wsX11_tell wsX9_putChance := goodIn_s _ [(36, 4), (9, 1), (40, 7), (75, 3)] rfl (by decide +kernel)
set_option maxRecDepth 20000 in
theorem gX11_tell_X9_putChance : GoodIn wsX11_tell (wsV RX11 169 RX9 yX9_putChance wsX9_putChance) := goodIn_app (goodIn_of _ (by decide +kernel)) ggX11_tell_X9_putChance
set_option maxRecDepth 20000 in
theorem ggX11_solve_X8_work : GoodIn wsX11_solve wsX8_work := goodIn_s _ [(14, 5), (13, 1), (19, 204), (285, 31)] rfl (by decide +kernel)
set_option maxRecDepth 20000 in
theorem gX11_solve_X8_work : GoodIn wsX11_solve (wsV RX11 181 RX8 yX8_work wsX8_work) := goodIn_app (goodIn_of _ (by decide +kernel)) ggX11_solve_X8_work
set_option maxRecDepth 20000 in
theorem ggX11_solve_X8_handOver : GoodIn wsX11_solve wsX8_handOver := goodIn_s _ [(226, 2), (45, 1), (25, 1), (43, 1), (22, 1), (26, 1), (44, 1), (23, 1), (51, 8), (222, 1), (161, 3), (120, 2), (37, 1), (122, 1), (164, 4), (46, 3), (13, 1), (49, 2), (283, 2), (297, 16)] rfl (by decide +kernel)
set_option maxRecDepth 20000 in
theorem gX11_solve_X8_handOver : GoodIn wsX11_solve (wsV RX11 185 RX8 yX8_handOver wsX8_handOver) := goodIn_app (goodIn_of _ (by decide +kernel)) ggX11_solve_X8_handOver
set_option maxRecDepth 20000 in
theorem ggX11_solve_X8_top : GoodIn wsX11_solve wsX8_top := goodIn_s _ [(231, 1), (115, 1), (90, 1), (114, 1), (45, 1), (25, 2), (51, 8), (116, 6), (37, 1), (122, 14), (46, 3), (13, 1), (49, 2), (193, 5), (161, 7), (198, 4), (141, 4), (202, 4), (297, 16)] rfl (by decide +kernel)
set_option maxRecDepth 20000 in
theorem gX11_solve_X8_top : GoodIn wsX11_solve (wsV RX11 189 RX8 yX8_top wsX8_top) := goodIn_app (goodIn_of _ (by decide +kernel)) ggX11_solve_X8_top
set_option maxRecDepth 20000 in
theorem ggX11_solve_X4_put : GoodIn wsX11_solve wsX4_put := goodIn_s _ [(236, 8), (161, 2), (54, 1), (163, 1), (57, 2), (120, 2), (37, 1), (122, 1), (164, 4), (56, 1), (244, 4), (127, 1), (132, 4), (248, 1), (52, 2), (55, 1), (249, 3), (235, 1), (252, 3), (169, 8), (255, 1), (178, 6), (123, 4), (256, 8), (142, 3), (264, 1), (203, 3), (265, 1), (151, 10), (168, 1), (177, 1), (266, 1), (207, 15), (316, 6), (310, 6)] rfl (by decide +kernel)
set_option maxRecDepth 20000 in
theorem gX11_solve_X4_put : GoodIn wsX11_solve (wsV RX11 201 RX4 yX4_put wsX4_put) := goodIn_app (goodIn_of _ (by decide +kernel)) ggX11_solve_X4_put
set_option maxRecDepth 20000 in
theorem ggX11_expect_X11_isGood : GoodIn wsX11_expect wsX11_isGood := goodIn_s _ [(16, 2), (5, 1), (18, 14), (15, 1), (32, 16), (232, 16), (250, 15)] rfl (by decide +kernel)
set_option maxRecDepth 20000 in
theorem gX11_expect_X11_isGood : GoodIn wsX11_expect (wsV RX11 173 RX11 yX11_isGood wsX11_isGood) := goodIn_app (goodIn_of _ (by decide +kernel)) ggX11_expect_X11_isGood
set_option maxRecDepth 20000 in
theorem ggX11_expect_X11_spreadWay : GoodIn wsX11_expect wsX11_spreadWay := goodIn_s _ [(51, 1), (17, 1), (5, 1), (18, 1), (6, 1), (52, 3), (22, 1), (55, 2), (24, 2), (57, 26), (26, 6), (15, 1), (32, 16), (83, 12), (232, 16), (250, 4), (248, 2), (254, 14)] rfl (by decide +kernel)
set_option maxRecDepth 20000 in
theorem gX11_expect_X11_spreadWay : GoodIn wsX11_expect (wsV RX11 207 RX11 yX11_spreadWay wsX11_spreadWay) := goodIn_app (goodIn_of _ (by decide +kernel)) ggX11_expect_X11_spreadWay
set_option maxRecDepth 20000 in
theorem ggX11_expect_X6_meet : GoodIn wsX11_expect wsX6_meet := goodIn_s _ [(99, 9), (98, 1), (108, 3), (15, 1), (111, 2), (76, 7), (113, 12), (38, 1), (125, 5), (87, 1), (130, 4), (88, 4), (134, 24), (250, 12), (268, 5), (248, 2), (265, 3)] rfl (by decide +kernel)
set_option maxRecDepth 20000 in
theorem gX11_expect_X6_meet : GoodIn wsX11_expect (wsV RX11 210 RX6 yX6_meet wsX6_meet) := goodIn_app (goodIn_of _ (by decide +kernel)) ggX11_expect_X6_meet
set_option maxRecDepth 20000 in
theorem ggX11_expect_X0_putProduct : GoodIn wsX11_expect wsX0_putProduct := goodIn_s _ [(122, 1), (81, 2), (123, 2), (38, 1), (125, 1), (80, 1), (126, 3), (78, 1), (129, 1), (87, 1), (130, 4), (88, 4), (265, 3)] rfl (by decide +kernel)
set_option maxRecDepth 20000 in
theorem gX11_expect_X0_putProduct : GoodIn wsX11_expect (wsV RX11 214 RX0 yX0_putProduct wsX0_putProduct) := goodIn_app (goodIn_of _ (by decide +kernel)) ggX11_expect_X0_putProduct
set_option maxRecDepth 20000 in
theorem ggX11_expect_X4_put : GoodIn wsX11_expect wsX4_put := goodIn_s _ [(163, 8), (139, 2), (78, 1), (141, 1), (81, 2), (123, 2), (38, 1), (125, 1), (142, 4), (80, 1), (171, 1), (84, 8), (172, 1), (76, 2), (79, 1), (173, 3), (162, 1), (176, 18), (126, 4), (194, 8), (151, 3), (202, 1), (155, 3), (203, 29), (273, 6), (265, 3), (279, 3)] rfl (by decide +kernel)
