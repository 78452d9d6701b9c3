set_option maxRecDepth 20000 in
theorem ggX11_tell_X11_isPlaying : GoodIn wsX11_tell wsX11_isPlaying := goodIn_r _ [10, 11, 12, 13, 9, 14, 47, 48, 49, 50, 51, 52, 53, 54, 55, 56, 57, 58, 59, 60, 61, 62] rfl (by decide +kernel)
set_option maxRecDepth 20000 in
theorem gX11_tell_X11_isPlaying : GoodIn wsX11_tell (wsV RX11 125 RX11 yX11_isPlaying wsX11_isPlaying) := goodIn_app (goodIn_of _ (by decide +kernel)) ggX11_tell_X11_isPlaying
set_option maxRecDepth 20000 in
theorem ggX11_tell_X11_sideOf : GoodIn wsX11_tell wsX11_sideOf := goodIn_r _ [18, 19, 20, 47, 48, 49, 50, 51, 52, 53, 54, 55, 56, 57, 58, 59, 60, 61, 62, 63, 64, 65, 66] rfl (by decide +kernel)
set_option maxRecDepth 20000 in
theorem gX11_tell_X11_sideOf : GoodIn wsX11_tell (wsV RX11 129 RX11 yX11_sideOf wsX11_sideOf) := goodIn_app (goodIn_of _ (by decide +kernel)) ggX11_tell_X11_sideOf
set_option maxRecDepth 20000 in
theorem ggX11_tell_X7_hasMove : GoodIn wsX11_tell wsX7_hasMove := goodIn_r _ [25, 26, 27, 28, 29, 24, 30, 31, 67, 68, 69, 70, 71, 72, 73, 74] rfl (by decide +kernel)
set_option maxRecDepth 20000 in
theorem gX11_tell_X7_hasMove : GoodIn wsX11_tell (wsV RX11 153 RX7 yX7_hasMove wsX7_hasMove) := goodIn_app (goodIn_of _ (by decide +kernel)) ggX11_tell_X7_hasMove
set_option maxRecDepth 20000 in
theorem ggX11_tell_X9_putChance : GoodIn wsX11_tell wsX9_putChance := goodIn_r _ [36, 37, 38, 39, 9, 40, 41, 42, 43, 44, 45, 46, 75, 76, 77] rfl (by decide +kernel)
set_option maxRecDepth 20000 in
theorem gX11_tell_X9_putChance : GoodIn wsX11_tell (wsV RX11 169 RX9 yX9_putChance wsX9_putChance) := goodIn_app (goodIn_of _ (by decide +kernel)) ggX11_tell_X9_putChance
set_option maxRecDepth 20000 in
theorem ggX11_solve_X8_work : GoodIn wsX11_solve wsX8_work := goodIn_r _ [14, 15, 16, 17, 18, 13, 19, 20, 21, 22, 23, 24, 25, 26, 27, 28, 29, 30, 31, 32, 33, 34, 35, 36, 37, 38, 39, 40, 41, 42, 43, 44, 45, 46, 47, 48, 49, 50, 51, 52, 53, 54, 55, 56, 57, 58, 59, 60, 61, 62, 63, 64, 65, 66, 67, 68, 69, 70, 71, 72, 73, 74, 75, 76, 77, 78, 79, 80, 81, 82, 83, 84, 85, 86, 87, 88, 89, 90, 91, 92, 93, 94, 95, 96, 97, 98, 99, 100, 101, 102, 103, 104, 105, 106, 107, 108, 109, 110, 111, 112, 113, 114, 115, 116, 117, 118, 119, 120, 121, 122, 123, 124, 125, 126, 127, 128, 129, 130, 131, 132, 133, 134, 135, 136, 137, 138, 139, 140, 141, 142, 143, 144, 145, 146, 147, 148, 149, 150, 151, 152, 153, 154, 155, 156, 157, 158, 159, 160, 161, 162, 163, 164, 165, 166, 167, 168, 169, 170, 171, 172, 173, 174, 175, 176, 177, 178, 179, 180, 181, 182, 183, 184, 185, 186, 187, 188, 189, 190, 191, 192, 193, 194, 195, 196, 197, 198, 199, 200, 201, 202, 203, 204, 205, 206, 207, 208, 209, 210, 211, 212, 213, 214, 215, 216, 217, 218, 219, 220, 221, 222, 285, 286, 287, 288, 289, 290, 291, 292, 293, 294, 295, 296, 297, 298, 299, 300, 301, 302, 303, 304, 305, 306, 307, 308, 309, 310, 311, 312, 313, 314, 315] rfl (by decide +kernel)
set_option maxRecDepth 20000 in
theorem gX11_solve_X8_work : GoodIn wsX11_solve (wsV RX11 181 RX8 yX8_work wsX8_work) := goodIn_app (goodIn_of _ (by decide +kernel)) ggX11_solve_X8_work
set_option maxRecDepth 20000 in
theorem ggX11_solve_X8_handOver : GoodIn wsX11_solve wsX8_handOver := goodIn_r _ [226, 227, 45, 25, 43, 22, 26, 44, 23, 51, 52, 53, 54, 55, 56, 57, 58, 222, 161, 162, 163, 120, 121, 37, 122, 164, 165, 166, 167, 46, 47, 48, 13, 49, 50, 283, 284, 297, 298, 299, 300, 301, 302, 303, 304, 305, 306, 307, 308, 309, 310, 311, 312] rfl (by decide +kernel)
set_option maxRecDepth 20000 in
theorem gX11_solve_X8_handOver : GoodIn wsX11_solve (wsV RX11 185 RX8 yX8_handOver wsX8_handOver) := goodIn_app (goodIn_of _ (by decide +kernel)) ggX11_solve_X8_handOver
set_option maxRecDepth 20000 in
theorem ggX11_solve_X8_top : GoodIn wsX11_solve wsX8_top := goodIn_r _ [231, 115, 90, 114, 45, 25, 26, 51, 52, 53, 54, 55, 56, 57, 58, 116, 117, 118, 119, 120, 121, 37, 122, 123, 124, 125, 126, 127, 128, 129, 130, 131, 132, 133, 134, 135, 46, 47, 48, 13, 49, 50, 193, 194, 195, 196, 197, 161, 162, 163, 164, 165, 166, 167, 198, 199, 200, 201, 141, 142, 143, 144, 202, 203, 204, 205, 297, 298, 299, 300, 301, 302, 303, 304, 305, 306, 307, 308, 309, 310, 311, 312] rfl (by decide +kernel)
set_option maxRecDepth 20000 in
theorem gX11_solve_X8_top : GoodIn wsX11_solve (wsV RX11 189 RX8 yX8_top wsX8_top) := goodIn_app (goodIn_of _ (by decide +kernel)) ggX11_solve_X8_top
set_option maxRecDepth 20000 in
theorem ggX11_solve_X4_put : GoodIn wsX11_solve wsX4_put := goodIn_r _ [236, 237, 238, 239, 240, 241, 242, 243, 161, 162, 54, 163, 57, 58, 120, 121, 37, 122, 164, 165, 166, 167, 56, 244, 245, 246, 247, 127, 132, 133, 134, 135, 248, 52, 53, 55, 249, 250, 251, 235, 252, 253, 254, 169, 170, 171, 172, 173, 174, 175, 176, 255, 178, 179, 180, 181, 182, 183, 123, 124, 125, 126, 256, 257, 258, 259, 260, 261, 262, 263, 142, 143, 144, 264, 203, 204, 205, 265, 151, 152, 153, 154, 155, 156, 157, 158, 159, 160, 168, 177, 266, 207, 208, 209, 210, 211, 212, 213, 214, 215, 216, 217, 218, 219, 220, 221, 316, 317, 318, 319, 320, 321, 310, 311, 312, 313, 314, 315] rfl (by decide +kernel)
set_option maxRecDepth 20000 in
theorem gX11_solve_X4_put : GoodIn wsX11_solve (wsV RX11 201 RX4 yX4_put wsX4_put) := goodIn_app (goodIn_of _ (by decide +kernel)) ggX11_solve_X4_put
set_option maxRecDepth 20000 in
theorem ggX11_expect_X11_isGood : GoodIn wsX11_expect wsX11_isGood := goodIn_r _ [16, 17, 5, 18, 19, 20, 21, 22, 23, 24, 25, 26, 27, 28, 29, 30, 31, 15, 32, 33, 34, 35, 36, 37, 38, 39, 40, 41, 42, 43, 44, 45, 46, 47, 232, 233, 234, 235, 236, 237, 238, 239, 240, 241, 242, 243, 244, 245, 246, 247, 250, 251, 252, 253, 254, 255, 256, 257, 258, 259, 260, 261, 262, 263, 264] rfl (by decide +kernel)
set_option maxRecDepth 20000 in
theorem gX11_expect_X11_isGood : GoodIn wsX11_expect (wsV RX11 173 RX11 yX11_isGood wsX11_isGood) := goodIn_app (goodIn_of _ (by decide +kernel)) ggX11_expect_X11_isGood
set_option maxRecDepth 20000 in
theorem ggX11_expect_X11_spreadWay : GoodIn wsX11_expect wsX11_spreadWay := goodIn_r _ [51, 17, 5, 18, 6, 52, 53, 54, 22, 55, 56, 24, 25, 57, 58, 59, 60, 61, 62, 63, 64, 65, 66, 67, 68, 69, 70, 71, 72, 73, 74, 75, 76, 77, 78, 79, 80, 81, 82, 26, 27, 28, 29, 30, 31, 15, 32, 33, 34, 35, 36, 37, 38, 39, 40, 41, 42, 43, 44, 45, 46, 47, 83, 84, 85, 86, 87, 88, 89, 90, 91, 92, 93, 94, 232, 233, 234, 235, 236, 237, 238, 239, 240, 241, 242, 243, 244, 245, 246, 247, 250, 251, 252, 253, 248, 249, 254, 255, 256, 257, 258, 259, 260, 261, 262, 263, 264, 265, 266, 267] rfl (by decide +kernel)
set_option maxRecDepth 20000 in
theorem gX11_expect_X11_spreadWay : GoodIn wsX11_expect (wsV RX11 207 RX11 yX11_spreadWay wsX11_spreadWay) := goodIn_app (goodIn_of _ (by decide +kernel)) ggX11_expect_X11_spreadWay
set_option maxRecDepth 20000 in
theorem ggX11_expect_X6_meet : GoodIn wsX11_expect wsX6_meet := goodIn_r _ [99, 100, 101, 102, 103, 104, 105, 106, 107, 98, 108, 109, 110, 15, 111, 112, 76, 77, 78, 79, 80, 81, 82, 113, 114, 115, 116, 117, 118, 119, 120, 121, 122, 123, 124, 38, 125, 126, 127, 128, 129, 87, 130, 131, 132, 133, 88, 89, 90, 91, 134, 135, 136, 137, 138, 139, 140, 141, 142, 143, 144, 145, 146, 147, 148, 149, 150, 151, 152, 153, 154, 155, 156, 157, 250, 251, 252, 253, 254, 255, 256, 257, 258, 259, 260, 261, 268, 269, 270, 271, 272, 248, 249, 265, 266, 267] rfl (by decide +kernel)
set_option maxRecDepth 20000 in
theorem gX11_expect_X6_meet : GoodIn wsX11_expect (wsV RX11 210 RX6 yX6_meet wsX6_meet) := goodIn_app (goodIn_of _ (by decide +kernel)) ggX11_expect_X6_meet
set_option maxRecDepth 20000 in
theorem ggX11_expect_X0_putProduct : GoodIn wsX11_expect wsX0_putProduct := goodIn_r _ [122, 81, 82, 123, 124, 38, 125, 80, 126, 127, 128, 78, 129, 87, 130, 131, 132, 133, 88, 89, 90, 91, 265, 266, 267] rfl (by decide +kernel)
set_option maxRecDepth 20000 in
theorem gX11_expect_X0_putProduct : GoodIn wsX11_expect (wsV RX11 214 RX0 yX0_putProduct wsX0_putProduct) := goodIn_app (goodIn_of _ (by decide +kernel)) ggX11_expect_X0_putProduct
set_option maxRecDepth 20000 in
theorem ggX11_expect_X4_put : GoodIn wsX11_expect wsX4_put := goodIn_r _ [163, 164, 165, 166, 167, 168, 169, 170, 139, 140, 78, 141, 81, 82, 123, 124, 38, 125, 142, 143, 144, 145, 80, 171, 84, 85, 86, 87, 88, 89, 90, 91, 172, 76, 77, 79, 173, 174, 175, 162, 176, 177, 178, 179, 180, 181, 182, 183, 184, 185, 186, 187, 188, 189, 190, 191, 192, 193, 126, 127, 128, 129, 194, 195, 196, 197, 198, 199, 200, 201, 151, 152, 153, 202, 155, 156, 157, 203, 204, 205, 206, 207, 208, 209, 210, 211, 212, 213, 214, 215, 216, 217, 218, 219, 220, 221, 222, 223, 224, 225, 226, 227, 228, 229, 230, 231, 273, 274, 275, 276, 277, 278, 265, 266, 267, 279, 280, 281] rfl (by decide +kernel)
